section
-- ===== PART A: goes FIRST, ahead of the names: the tables' words, and 'selects' of the private methods out of them =====
/-- a private method of a class that the tables say can be made, by its rows of tables_1 -/
def lw_okq (q : MethodName × Nat) : Prop := (q.1.cls ≠ "java/lang/invoke/MethodHandle" ∧ q.1.cls ≠ "java/lang/invoke/VarHandle") ∧ Cond.instantiable q.1.cls q.2 ∈ tables_1 ∧ Cond.privateMethod q.1 ∈ tables_1 ∧ Cond.instanceMethod q.1 ∈ tables_1
theorem lw_p0 : lw_okq (⟨"ParametricFlow", "forget", "()V"⟩, 5) := ⟨⟨by decide +kernel, by decide +kernel⟩, List.mem_of_getElem? (i := 22) (by decide +kernel), List.mem_of_getElem? (i := 415) (by decide +kernel), List.mem_of_getElem? (i := 416) (by decide +kernel)⟩
theorem lw_p1 : lw_okq (⟨"ParametricFlow$Arcs", "loadArtificial", "(IJJ)V"⟩, 8) := ⟨⟨by decide +kernel, by decide +kernel⟩, List.mem_of_getElem? (i := 196) (by decide +kernel), List.mem_of_getElem? (i := 501) (by decide +kernel), List.mem_of_getElem? (i := 502) (by decide +kernel)⟩
theorem lw_p2 : lw_okq (⟨"ParametricFlow$Simplex", "entering", "()I"⟩, 9) := ⟨⟨by decide +kernel, by decide +kernel⟩, List.mem_of_getElem? (i := 190) (by decide +kernel), List.mem_of_getElem? (i := 515) (by decide +kernel), List.mem_of_getElem? (i := 516) (by decide +kernel)⟩
theorem lw_p3 : lw_okq (⟨"ParametricFlow$Simplex", "limitByCosts", "(LParametricFlow$Network;)V"⟩, 9) := ⟨⟨by decide +kernel, by decide +kernel⟩, List.mem_of_getElem? (i := 190) (by decide +kernel), List.mem_of_getElem? (i := 656) (by decide +kernel), List.mem_of_getElem? (i := 657) (by decide +kernel)⟩
theorem lw_p4 : lw_okq (⟨"ParametricFlow$Simplex", "slopeTo", "(ILParametricFlow$Network;)J"⟩, 9) := ⟨⟨by decide +kernel, by decide +kernel⟩, List.mem_of_getElem? (i := 190) (by decide +kernel), List.mem_of_getElem? (i := 660) (by decide +kernel), List.mem_of_getElem? (i := 661) (by decide +kernel)⟩
theorem lw_p5 : lw_okq (⟨"ParametricFlow$Simplex", "limitByFlows", "(LParametricFlow$Network;)V"⟩, 9) := ⟨⟨by decide +kernel, by decide +kernel⟩, List.mem_of_getElem? (i := 190) (by decide +kernel), List.mem_of_getElem? (i := 669) (by decide +kernel), List.mem_of_getElem? (i := 670) (by decide +kernel)⟩
theorem lw_p6 : lw_okq (⟨"ParametricFlow$Simplex", "slopeBelow", "(ILParametricFlow$Network;)J"⟩, 9) := ⟨⟨by decide +kernel, by decide +kernel⟩, List.mem_of_getElem? (i := 190) (by decide +kernel), List.mem_of_getElem? (i := 673) (by decide +kernel), List.mem_of_getElem? (i := 674) (by decide +kernel)⟩
theorem lw_p7 : lw_okq (⟨"ParametricFlow$Curve", "begin", "(LParametricFlow$Network;LParametricFlow$Simplex;)I"⟩, 10) := ⟨⟨by decide +kernel, by decide +kernel⟩, List.mem_of_getElem? (i := 85) (by decide +kernel), List.mem_of_getElem? (i := 702) (by decide +kernel), List.mem_of_getElem? (i := 703) (by decide +kernel)⟩
theorem lw_p8 : lw_okq (⟨"ParametricFlow$Curve", "nextRight", "()LParametricFlow$Line;"⟩, 10) := ⟨⟨by decide +kernel, by decide +kernel⟩, List.mem_of_getElem? (i := 85) (by decide +kernel), List.mem_of_getElem? (i := 717) (by decide +kernel), List.mem_of_getElem? (i := 718) (by decide +kernel)⟩
theorem lw_p9 : lw_okq (⟨"java/util/ArrayList", "add", "(Ljava/lang/Object;[Ljava/lang/Object;I)V"⟩, 3) := ⟨⟨by decide +kernel, by decide +kernel⟩, List.mem_of_getElem? (i := 129) (by decide +kernel), List.mem_of_getElem? (i := 729) (by decide +kernel), List.mem_of_getElem? (i := 730) (by decide +kernel)⟩
theorem lw_p10 : lw_okq (⟨"java/util/ArrayList", "grow", "()[Ljava/lang/Object;"⟩, 3) := ⟨⟨by decide +kernel, by decide +kernel⟩, List.mem_of_getElem? (i := 129) (by decide +kernel), List.mem_of_getElem? (i := 733) (by decide +kernel), List.mem_of_getElem? (i := 734) (by decide +kernel)⟩
theorem lw_p11 : lw_okq (⟨"java/util/ArrayList", "grow", "(I)[Ljava/lang/Object;"⟩, 3) := ⟨⟨by decide +kernel, by decide +kernel⟩, List.mem_of_getElem? (i := 129) (by decide +kernel), List.mem_of_getElem? (i := 737) (by decide +kernel), List.mem_of_getElem? (i := 738) (by decide +kernel)⟩
theorem lw_p12 : lw_okq (⟨"ParametricFlow$Curve", "split", "(LParametricFlow$Network;LParametricFlow$Simplex;LParametricFlow$Line;)V"⟩, 10) := ⟨⟨by decide +kernel, by decide +kernel⟩, List.mem_of_getElem? (i := 85) (by decide +kernel), List.mem_of_getElem? (i := 799) (by decide +kernel), List.mem_of_getElem? (i := 800) (by decide +kernel)⟩
theorem lw_p13 : lw_okq (⟨"ParametricFlow$Curve", "addPiece", "(JJJ)V"⟩, 10) := ⟨⟨by decide +kernel, by decide +kernel⟩, List.mem_of_getElem? (i := 85) (by decide +kernel), List.mem_of_getElem? (i := 805) (by decide +kernel), List.mem_of_getElem? (i := 806) (by decide +kernel)⟩
theorem lw_p14 : lw_okq (⟨"ParametricFlowModel", "begin", "(I)V"⟩, 48) := ⟨⟨by decide +kernel, by decide +kernel⟩, List.mem_of_getElem? (i := 821) (by decide +kernel), List.mem_of_getElem? (i := 827) (by decide +kernel), List.mem_of_getElem? (i := 828) (by decide +kernel)⟩
theorem lw_p15 : lw_okq (⟨"ParametricFlowModel", "noNode", "(I)Z"⟩, 48) := ⟨⟨by decide +kernel, by decide +kernel⟩, List.mem_of_getElem? (i := 821) (by decide +kernel), List.mem_of_getElem? (i := 988) (by decide +kernel), List.mem_of_getElem? (i := 989) (by decide +kernel)⟩
def lw_privs_1 : List (MethodName × Nat) := [(⟨"ParametricFlow", "forget", "()V"⟩, 5), (⟨"ParametricFlow$Arcs", "loadArtificial", "(IJJ)V"⟩, 8), (⟨"ParametricFlow$Simplex", "entering", "()I"⟩, 9), (⟨"ParametricFlow$Simplex", "limitByCosts", "(LParametricFlow$Network;)V"⟩, 9), (⟨"ParametricFlow$Simplex", "slopeTo", "(ILParametricFlow$Network;)J"⟩, 9), (⟨"ParametricFlow$Simplex", "limitByFlows", "(LParametricFlow$Network;)V"⟩, 9), (⟨"ParametricFlow$Simplex", "slopeBelow", "(ILParametricFlow$Network;)J"⟩, 9), (⟨"ParametricFlow$Curve", "begin", "(LParametricFlow$Network;LParametricFlow$Simplex;)I"⟩, 10), (⟨"ParametricFlow$Curve", "nextRight", "()LParametricFlow$Line;"⟩, 10), (⟨"java/util/ArrayList", "add", "(Ljava/lang/Object;[Ljava/lang/Object;I)V"⟩, 3), (⟨"java/util/ArrayList", "grow", "()[Ljava/lang/Object;"⟩, 3), (⟨"java/util/ArrayList", "grow", "(I)[Ljava/lang/Object;"⟩, 3), (⟨"ParametricFlow$Curve", "split", "(LParametricFlow$Network;LParametricFlow$Simplex;LParametricFlow$Line;)V"⟩, 10), (⟨"ParametricFlow$Curve", "addPiece", "(JJJ)V"⟩, 10), (⟨"ParametricFlowModel", "begin", "(I)V"⟩, 48), (⟨"ParametricFlowModel", "noNode", "(I)Z"⟩, 48)]
theorem lw_r1 : ∀ q ∈ lw_privs_1, lw_okq q := List.forall_mem_cons.mpr ⟨lw_p0, List.forall_mem_cons.mpr ⟨lw_p1, List.forall_mem_cons.mpr ⟨lw_p2, List.forall_mem_cons.mpr ⟨lw_p3, List.forall_mem_cons.mpr ⟨lw_p4, List.forall_mem_cons.mpr ⟨lw_p5, List.forall_mem_cons.mpr ⟨lw_p6, List.forall_mem_cons.mpr ⟨lw_p7, List.forall_mem_cons.mpr ⟨lw_p8, List.forall_mem_cons.mpr ⟨lw_p9, List.forall_mem_cons.mpr ⟨lw_p10, List.forall_mem_cons.mpr ⟨lw_p11, List.forall_mem_cons.mpr ⟨lw_p12, List.forall_mem_cons.mpr ⟨lw_p13, List.forall_mem_cons.mpr ⟨lw_p14, List.forall_mem_cons.mpr ⟨lw_p15, fun _ h => absurd h List.not_mem_nil⟩⟩⟩⟩⟩⟩⟩⟩⟩⟩⟩⟩⟩⟩⟩⟩
theorem lw_p16 : lw_okq (⟨"ParametricFlowModel", "noArc", "(I)Z"⟩, 48) := ⟨⟨by decide +kernel, by decide +kernel⟩, List.mem_of_getElem? (i := 821) (by decide +kernel), List.mem_of_getElem? (i := 1009) (by decide +kernel), List.mem_of_getElem? (i := 1010) (by decide +kernel)⟩
theorem lw_p17 : lw_okq (⟨"ParametricFlowModel", "sumOf", "(Z)I"⟩, 48) := ⟨⟨by decide +kernel, by decide +kernel⟩, List.mem_of_getElem? (i := 821) (by decide +kernel), List.mem_of_getElem? (i := 1029) (by decide +kernel), List.mem_of_getElem? (i := 1030) (by decide +kernel)⟩
theorem lw_p18 : lw_okq (⟨"ParametricFlowModel", "tryAt", "(JJ)I"⟩, 48) := ⟨⟨by decide +kernel, by decide +kernel⟩, List.mem_of_getElem? (i := 821) (by decide +kernel), List.mem_of_getElem? (i := 1040) (by decide +kernel), List.mem_of_getElem? (i := 1041) (by decide +kernel)⟩
theorem lw_p19 : lw_okq (⟨"ParametricFlowModel", "isBalanced", "(JJ)Z"⟩, 48) := ⟨⟨by decide +kernel, by decide +kernel⟩, List.mem_of_getElem? (i := 821) (by decide +kernel), List.mem_of_getElem? (i := 1044) (by decide +kernel), List.mem_of_getElem? (i := 1045) (by decide +kernel)⟩
theorem lw_p20 : lw_okq (⟨"ParametricFlowModel", "lay", "(JJ)V"⟩, 48) := ⟨⟨by decide +kernel, by decide +kernel⟩, List.mem_of_getElem? (i := 821) (by decide +kernel), List.mem_of_getElem? (i := 1048) (by decide +kernel), List.mem_of_getElem? (i := 1049) (by decide +kernel)⟩
theorem lw_p21 : lw_okq (⟨"ParametricFlowModel", "layDepths", "()V"⟩, 48) := ⟨⟨by decide +kernel, by decide +kernel⟩, List.mem_of_getElem? (i := 821) (by decide +kernel), List.mem_of_getElem? (i := 1056) (by decide +kernel), List.mem_of_getElem? (i := 1057) (by decide +kernel)⟩
theorem lw_p22 : lw_okq (⟨"ParametricFlowModel", "entering", "()I"⟩, 48) := ⟨⟨by decide +kernel, by decide +kernel⟩, List.mem_of_getElem? (i := 821) (by decide +kernel), List.mem_of_getElem? (i := 1060) (by decide +kernel), List.mem_of_getElem? (i := 1061) (by decide +kernel)⟩
theorem lw_p23 : lw_okq (⟨"ParametricFlowModel", "reduced", "(I)J"⟩, 48) := ⟨⟨by decide +kernel, by decide +kernel⟩, List.mem_of_getElem? (i := 821) (by decide +kernel), List.mem_of_getElem? (i := 1064) (by decide +kernel), List.mem_of_getElem? (i := 1065) (by decide +kernel)⟩
theorem lw_p24 : lw_okq (⟨"ParametricFlowModel", "pivotBy", "(I)V"⟩, 48) := ⟨⟨by decide +kernel, by decide +kernel⟩, List.mem_of_getElem? (i := 821) (by decide +kernel), List.mem_of_getElem? (i := 1068) (by decide +kernel), List.mem_of_getElem? (i := 1069) (by decide +kernel)⟩
theorem lw_p25 : lw_okq (⟨"ParametricFlowModel", "layCycle", "(I)V"⟩, 48) := ⟨⟨by decide +kernel, by decide +kernel⟩, List.mem_of_getElem? (i := 821) (by decide +kernel), List.mem_of_getElem? (i := 1072) (by decide +kernel), List.mem_of_getElem? (i := 1073) (by decide +kernel)⟩
theorem lw_p26 : lw_okq (⟨"ParametricFlowModel", "apexOf", "(II)I"⟩, 48) := ⟨⟨by decide +kernel, by decide +kernel⟩, List.mem_of_getElem? (i := 821) (by decide +kernel), List.mem_of_getElem? (i := 1076) (by decide +kernel), List.mem_of_getElem? (i := 1077) (by decide +kernel)⟩
theorem lw_p27 : lw_okq (⟨"ParametricFlowModel", "room", "(I)J"⟩, 48) := ⟨⟨by decide +kernel, by decide +kernel⟩, List.mem_of_getElem? (i := 821) (by decide +kernel), List.mem_of_getElem? (i := 1080) (by decide +kernel), List.mem_of_getElem? (i := 1081) (by decide +kernel)⟩
theorem lw_p28 : lw_okq (⟨"ParametricFlowModel", "isBelow", "(II)Z"⟩, 48) := ⟨⟨by decide +kernel, by decide +kernel⟩, List.mem_of_getElem? (i := 821) (by decide +kernel), List.mem_of_getElem? (i := 1084) (by decide +kernel), List.mem_of_getElem? (i := 1085) (by decide +kernel)⟩
theorem lw_p29 : lw_okq (⟨"ParametricFlowModel", "hang", "(IIII)V"⟩, 48) := ⟨⟨by decide +kernel, by decide +kernel⟩, List.mem_of_getElem? (i := 821) (by decide +kernel), List.mem_of_getElem? (i := 1088) (by decide +kernel), List.mem_of_getElem? (i := 1089) (by decide +kernel)⟩
theorem lw_p30 : lw_okq (⟨"ParametricFlowModel", "findAgain", "()V"⟩, 48) := ⟨⟨by decide +kernel, by decide +kernel⟩, List.mem_of_getElem? (i := 821) (by decide +kernel), List.mem_of_getElem? (i := 1096) (by decide +kernel), List.mem_of_getElem? (i := 1097) (by decide +kernel)⟩
theorem lw_p31 : lw_okq (⟨"ParametricFlowModel", "valueNow", "()J"⟩, 48) := ⟨⟨by decide +kernel, by decide +kernel⟩, List.mem_of_getElem? (i := 821) (by decide +kernel), List.mem_of_getElem? (i := 1111) (by decide +kernel), List.mem_of_getElem? (i := 1112) (by decide +kernel)⟩
def lw_privs_2 : List (MethodName × Nat) := [(⟨"ParametricFlowModel", "noArc", "(I)Z"⟩, 48), (⟨"ParametricFlowModel", "sumOf", "(Z)I"⟩, 48), (⟨"ParametricFlowModel", "tryAt", "(JJ)I"⟩, 48), (⟨"ParametricFlowModel", "isBalanced", "(JJ)Z"⟩, 48), (⟨"ParametricFlowModel", "lay", "(JJ)V"⟩, 48), (⟨"ParametricFlowModel", "layDepths", "()V"⟩, 48), (⟨"ParametricFlowModel", "entering", "()I"⟩, 48), (⟨"ParametricFlowModel", "reduced", "(I)J"⟩, 48), (⟨"ParametricFlowModel", "pivotBy", "(I)V"⟩, 48), (⟨"ParametricFlowModel", "layCycle", "(I)V"⟩, 48), (⟨"ParametricFlowModel", "apexOf", "(II)I"⟩, 48), (⟨"ParametricFlowModel", "room", "(I)J"⟩, 48), (⟨"ParametricFlowModel", "isBelow", "(II)Z"⟩, 48), (⟨"ParametricFlowModel", "hang", "(IIII)V"⟩, 48), (⟨"ParametricFlowModel", "findAgain", "()V"⟩, 48), (⟨"ParametricFlowModel", "valueNow", "()J"⟩, 48)]
theorem lw_r2 : ∀ q ∈ lw_privs_2, lw_okq q := List.forall_mem_cons.mpr ⟨lw_p16, List.forall_mem_cons.mpr ⟨lw_p17, List.forall_mem_cons.mpr ⟨lw_p18, List.forall_mem_cons.mpr ⟨lw_p19, List.forall_mem_cons.mpr ⟨lw_p20, List.forall_mem_cons.mpr ⟨lw_p21, List.forall_mem_cons.mpr ⟨lw_p22, List.forall_mem_cons.mpr ⟨lw_p23, List.forall_mem_cons.mpr ⟨lw_p24, List.forall_mem_cons.mpr ⟨lw_p25, List.forall_mem_cons.mpr ⟨lw_p26, List.forall_mem_cons.mpr ⟨lw_p27, List.forall_mem_cons.mpr ⟨lw_p28, List.forall_mem_cons.mpr ⟨lw_p29, List.forall_mem_cons.mpr ⟨lw_p30, List.forall_mem_cons.mpr ⟨lw_p31, fun _ h => absurd h List.not_mem_nil⟩⟩⟩⟩⟩⟩⟩⟩⟩⟩⟩⟩⟩⟩⟩⟩
theorem lw_p32 : lw_okq (⟨"ParametricFlowModel", "after", "(I)I"⟩, 48) := ⟨⟨by decide +kernel, by decide +kernel⟩, List.mem_of_getElem? (i := 821) (by decide +kernel), List.mem_of_getElem? (i := 1146) (by decide +kernel), List.mem_of_getElem? (i := 1147) (by decide +kernel)⟩
theorem lw_p33 : lw_okq (⟨"ParametricFlowModel", "findInterval", "()V"⟩, 48) := ⟨⟨by decide +kernel, by decide +kernel⟩, List.mem_of_getElem? (i := 821) (by decide +kernel), List.mem_of_getElem? (i := 1154) (by decide +kernel), List.mem_of_getElem? (i := 1155) (by decide +kernel)⟩
theorem lw_p34 : lw_okq (⟨"ParametricFlowModel", "bindCosts", "()V"⟩, 48) := ⟨⟨by decide +kernel, by decide +kernel⟩, List.mem_of_getElem? (i := 821) (by decide +kernel), List.mem_of_getElem? (i := 1158) (by decide +kernel), List.mem_of_getElem? (i := 1159) (by decide +kernel)⟩
theorem lw_p35 : lw_okq (⟨"ParametricFlowModel", "bind", "(JJ)V"⟩, 48) := ⟨⟨by decide +kernel, by decide +kernel⟩, List.mem_of_getElem? (i := 821) (by decide +kernel), List.mem_of_getElem? (i := 1162) (by decide +kernel), List.mem_of_getElem? (i := 1163) (by decide +kernel)⟩
theorem lw_p36 : lw_okq (⟨"ParametricFlowModel", "bindFlows", "()V"⟩, 48) := ⟨⟨by decide +kernel, by decide +kernel⟩, List.mem_of_getElem? (i := 821) (by decide +kernel), List.mem_of_getElem? (i := 1166) (by decide +kernel), List.mem_of_getElem? (i := 1167) (by decide +kernel)⟩
theorem lw_p37 : lw_okq (⟨"ParametricFlowModel", "findFunction", "(II)I"⟩, 48) := ⟨⟨by decide +kernel, by decide +kernel⟩, List.mem_of_getElem? (i := 821) (by decide +kernel), List.mem_of_getElem? (i := 1185) (by decide +kernel), List.mem_of_getElem? (i := 1186) (by decide +kernel)⟩
theorem lw_p38 : lw_okq (⟨"ParametricFlowModel", "layLine", "()V"⟩, 48) := ⟨⟨by decide +kernel, by decide +kernel⟩, List.mem_of_getElem? (i := 821) (by decide +kernel), List.mem_of_getElem? (i := 1189) (by decide +kernel), List.mem_of_getElem? (i := 1190) (by decide +kernel)⟩
theorem lw_p39 : lw_okq (⟨"ParametricFlowModel", "insertPoint", "(IJJ)V"⟩, 48) := ⟨⟨by decide +kernel, by decide +kernel⟩, List.mem_of_getElem? (i := 821) (by decide +kernel), List.mem_of_getElem? (i := 1193) (by decide +kernel), List.mem_of_getElem? (i := 1194) (by decide +kernel)⟩
theorem lw_p40 : lw_okq (⟨"ParametricFlowModel", "split", "(I)V"⟩, 48) := ⟨⟨by decide +kernel, by decide +kernel⟩, List.mem_of_getElem? (i := 821) (by decide +kernel), List.mem_of_getElem? (i := 1197) (by decide +kernel), List.mem_of_getElem? (i := 1198) (by decide +kernel)⟩
theorem lw_p41 : lw_okq (⟨"ParametricFlowModel", "know", "(IJ)V"⟩, 48) := ⟨⟨by decide +kernel, by decide +kernel⟩, List.mem_of_getElem? (i := 821) (by decide +kernel), List.mem_of_getElem? (i := 1201) (by decide +kernel), List.mem_of_getElem? (i := 1202) (by decide +kernel)⟩
theorem lw_p42 : lw_okq (⟨"ParametricFlowModel", "isBend", "(I)Z"⟩, 48) := ⟨⟨by decide +kernel, by decide +kernel⟩, List.mem_of_getElem? (i := 821) (by decide +kernel), List.mem_of_getElem? (i := 1205) (by decide +kernel), List.mem_of_getElem? (i := 1206) (by decide +kernel)⟩
def lw_privs_3 : List (MethodName × Nat) := [(⟨"ParametricFlowModel", "after", "(I)I"⟩, 48), (⟨"ParametricFlowModel", "findInterval", "()V"⟩, 48), (⟨"ParametricFlowModel", "bindCosts", "()V"⟩, 48), (⟨"ParametricFlowModel", "bind", "(JJ)V"⟩, 48), (⟨"ParametricFlowModel", "bindFlows", "()V"⟩, 48), (⟨"ParametricFlowModel", "findFunction", "(II)I"⟩, 48), (⟨"ParametricFlowModel", "layLine", "()V"⟩, 48), (⟨"ParametricFlowModel", "insertPoint", "(IJJ)V"⟩, 48), (⟨"ParametricFlowModel", "split", "(I)V"⟩, 48), (⟨"ParametricFlowModel", "know", "(IJ)V"⟩, 48), (⟨"ParametricFlowModel", "isBend", "(I)Z"⟩, 48)]
theorem lw_r3 : ∀ q ∈ lw_privs_3, lw_okq q := List.forall_mem_cons.mpr ⟨lw_p32, List.forall_mem_cons.mpr ⟨lw_p33, List.forall_mem_cons.mpr ⟨lw_p34, List.forall_mem_cons.mpr ⟨lw_p35, List.forall_mem_cons.mpr ⟨lw_p36, List.forall_mem_cons.mpr ⟨lw_p37, List.forall_mem_cons.mpr ⟨lw_p38, List.forall_mem_cons.mpr ⟨lw_p39, List.forall_mem_cons.mpr ⟨lw_p40, List.forall_mem_cons.mpr ⟨lw_p41, List.forall_mem_cons.mpr ⟨lw_p42, fun _ h => absurd h List.not_mem_nil⟩⟩⟩⟩⟩⟩⟩⟩⟩⟩⟩
def lw_privs : List (MethodName × Nat) := lw_privs_1 ++ (lw_privs_2 ++ (lw_privs_3))
def lw_tbl : List Cond := k2_sels lw_privs ++ tables_1
theorem lw_privs_ok : ∀ q ∈ lw_privs, lw_okq q := by
  show ∀ q ∈ lw_privs_1 ++ (lw_privs_2 ++ (lw_privs_3)), lw_okq q
  exact List.forall_mem_append.mpr ⟨lw_r1, List.forall_mem_append.mpr ⟨lw_r2, lw_r3⟩⟩
-- ===== end of PART A; then your names; then what follows =====
end
section
theorem goodIn_r {big : List Cond} (ws : List Cond) (ps : List Nat) (hp : ws = ps.filterMap (fun i => big[i]?)) (h : ws.all goodWord = true) : GoodIn big ws := by
  intro w hw
  have h1 := List.all_eq_true.mp h w hw
  rw [hp] at hw
  obtain ⟨i, -, hi⟩ := List.mem_filterMap.mp hw
  have hm : w ∈ big := by first | exact List.mem_of_getElem? hi | exact List.getElem?_mem hi
  exact ⟨hm, good_of_word h1⟩
theorem goodIn_app {big a b : List Cond} (ha : GoodIn big a) (hb : GoodIn big b) : GoodIn big (a ++ b) := fun w h => (List.mem_append.mp h).elim (ha w) (hb w)
theorem goodIn_ca {big a b : List Cond} {c : Cond} (ha : GoodIn big (c :: a)) (hb : GoodIn big b) : GoodIn big (c :: (a ++ b)) := fun w h => (List.mem_cons.mp h).elim (fun e => ha w (List.mem_cons.mpr (Or.inl e))) (fun h => (List.mem_append.mp h).elim (fun h => ha w (List.mem_cons.mpr (Or.inr h))) (hb w))
theorem goodIn_sub {big ws : List Cond} (hm : ∀ w ∈ ws, w ∈ big) (h : ws.all goodWord = true) : GoodIn big ws := fun w hw => ⟨hm w hw, good_of_word (List.all_eq_true.mp h w hw)⟩

-- names, fields, word lists, decode rows of the program: printed by TURN, taken by names.py
def RX0 : String := "ParametricFlow$Arcs"
def TX0 : u_T := fun k => match k with
  | 0 => ("ParametricFlow$Arcs", "nodes", "I", false)
  | 1 => ("ParametricFlow$Arcs", "count", "I", false)
  | 2 => ("ParametricFlow$Arcs", "from", "[I", true)
  | 3 => ("ParametricFlow$Arcs", "to", "[I", true)
  | 4 => ("ParametricFlow$Arcs", "capacity", "[J", true)
  | 5 => ("ParametricFlow$Arcs", "cost", "[J", true)
  | 6 => ("ParametricFlow$Arcs", "flow", "[J", true)
  | _ => ("ParametricFlow$Arcs", "place", "[I", true)
def tyX0 : Nat → FieldType := fun k => match k with
  | 0 => .int
  | 1 => .int
  | 2 => .array .int
  | 3 => .array .int
  | 4 => .array .long
  | 5 => .array .long
  | 6 => .array .long
  | _ => .array .int
abbrev wsX00 : List Cond := u_ws RX0 TX0 8
theorem nmX0 : ∀ a, a < 8 → ∀ b, b < 8 → a ≠ b → (TX0 a).2.1 ≠ (TX0 b).2.1 := by decide +kernel
theorem tyX0_ok : ∀ k, k < 8 → parseFieldDescriptor (TX0 k).2.2.1 = some (tyX0 k) := by decide +kernel
abbrev cX0_init : ByteArray := prog_2_method_1_code
def yX0_init : MethodName := ⟨RX0, "<init>", "()V"⟩
abbrev cX0_load : ByteArray := prog_2_method_2_code
def yX0_load : MethodName := ⟨RX0, "load", "(LParametricFlow$Network;JJ)V"⟩
abbrev cX0_loadArtificial : ByteArray := prog_2_method_3_code
def yX0_loadArtificial : MethodName := ⟨RX0, "loadArtificial", "(IJJ)V"⟩
abbrev cX0_hasArtificialFlow : ByteArray := prog_2_method_4_code
def yX0_hasArtificialFlow : MethodName := ⟨RX0, "hasArtificialFlow", "()Z"⟩
abbrev cX0_totalCost : ByteArray := prog_2_method_5_code
def yX0_totalCost : MethodName := ⟨RX0, "totalCost", "()J"⟩
abbrev cX0_room : ByteArray := prog_2_method_6_code
def yX0_room : MethodName := ⟨RX0, "room", "(IZ)J"⟩
abbrev cX0_push : ByteArray := prog_2_method_7_code
def yX0_push : MethodName := ⟨RX0, "push", "(IZJ)V"⟩
abbrev cX0_putAtBound : ByteArray := prog_2_method_8_code
def yX0_putAtBound : MethodName := ⟨RX0, "putAtBound", "(I)V"⟩
def RX1 : String := "ParametricFlow$Curve"
def TX1 : u_T := fun k => match k with
  | 0 => ("ParametricFlow$Curve", "known", "Z", false)
  | 1 => ("ParametricFlow$Curve", "low", "I", false)
  | 2 => ("ParametricFlow$Curve", "high", "I", false)
  | 3 => ("ParametricFlow$Curve", "answer", "I", false)
  | 4 => ("ParametricFlow$Curve", "numerators", "LParametricFlow$Longs;", true)
  | 5 => ("ParametricFlow$Curve", "denominators", "LParametricFlow$Longs;", true)
  | 6 => ("ParametricFlow$Curve", "slopes", "LParametricFlow$Longs;", true)
  | 7 => ("ParametricFlow$Curve", "left", "LParametricFlow$Line;", true)
  | 8 => ("ParametricFlow$Curve", "rights", "Ljava/util/ArrayList;", true)
  | _ => ("ParametricFlow$Curve", "depth", "I", false)
def tyX1 : Nat → FieldType := fun k => match k with
  | 0 => .boolean
  | 1 => .int
  | 2 => .int
  | 3 => .int
  | 4 => .object "ParametricFlow$Longs"
  | 5 => .object "ParametricFlow$Longs"
  | 6 => .object "ParametricFlow$Longs"
  | 7 => .object "ParametricFlow$Line"
  | 8 => .object "java/util/ArrayList"
  | _ => .int
abbrev wsX10 : List Cond := u_ws RX1 TX1 10
theorem nmX1 : ∀ a, a < 10 → ∀ b, b < 10 → a ≠ b → (TX1 a).2.1 ≠ (TX1 b).2.1 := by decide +kernel
theorem tyX1_ok : ∀ k, k < 10 → parseFieldDescriptor (TX1 k).2.2.1 = some (tyX1 k) := by decide +kernel
abbrev cX1_init : ByteArray := prog_3_method_1_code
def yX1_init : MethodName := ⟨RX1, "<init>", "()V"⟩
abbrev cX1_trace : ByteArray := prog_3_method_2_code
def yX1_trace : MethodName := ⟨RX1, "trace", "(LParametricFlow$Network;LParametricFlow$Simplex;II)I"⟩
abbrev cX1_begin : ByteArray := prog_3_method_3_code
def yX1_begin : MethodName := ⟨RX1, "begin", "(LParametricFlow$Network;LParametricFlow$Simplex;)I"⟩
abbrev cX1_nextRight : ByteArray := prog_3_method_4_code
def yX1_nextRight : MethodName := ⟨RX1, "nextRight", "()LParametricFlow$Line;"⟩
abbrev cX1_split : ByteArray := prog_3_method_5_code
def yX1_split : MethodName := ⟨RX1, "split", "(LParametricFlow$Network;LParametricFlow$Simplex;LParametricFlow$Line;)V"⟩
abbrev cX1_addPiece : ByteArray := prog_3_method_6_code
def yX1_addPiece : MethodName := ⟨RX1, "addPiece", "(JJJ)V"⟩
def RX2 : String := "ParametricFlow$Cycle"
def TX2 : u_T := fun k => match k with
  | 0 => ("ParametricFlow$Cycle", "row", "I", false)
  | 1 => ("ParametricFlow$Cycle", "along", "Z", false)
  | 2 => ("ParametricFlow$Cycle", "tail", "I", false)
  | 3 => ("ParametricFlow$Cycle", "head", "I", false)
  | 4 => ("ParametricFlow$Cycle", "apex", "I", false)
  | 5 => ("ParametricFlow$Cycle", "least", "J", false)
  | 6 => ("ParametricFlow$Cycle", "cut", "I", false)
  | _ => ("ParametricFlow$Cycle", "cutAhead", "Z", false)
def tyX2 : Nat → FieldType := fun k => match k with
  | 0 => .int
  | 1 => .boolean
  | 2 => .int
  | 3 => .int
  | 4 => .int
  | 5 => .long
  | 6 => .int
  | _ => .boolean
abbrev wsX20 : List Cond := u_ws RX2 TX2 8
theorem nmX2 : ∀ a, a < 8 → ∀ b, b < 8 → a ≠ b → (TX2 a).2.1 ≠ (TX2 b).2.1 := by decide +kernel
theorem tyX2_ok : ∀ k, k < 8 → parseFieldDescriptor (TX2 k).2.2.1 = some (tyX2 k) := by decide +kernel
abbrev cX2_init : ByteArray := prog_4_method_1_code
def yX2_init : MethodName := ⟨RX2, "<init>", "()V"⟩
abbrev cX2_close : ByteArray := prog_4_method_2_code
def yX2_close : MethodName := ⟨RX2, "close", "(LParametricFlow$Arcs;LParametricFlow$Tree;I)V"⟩
abbrev cX2_push : ByteArray := prog_4_method_3_code
def yX2_push : MethodName := ⟨RX2, "push", "(LParametricFlow$Arcs;LParametricFlow$Tree;)V"⟩
abbrev cX2_exchange : ByteArray := prog_4_method_4_code
def yX2_exchange : MethodName := ⟨RX2, "exchange", "(LParametricFlow$Arcs;LParametricFlow$Tree;)I"⟩
def RX3 : String := "ParametricFlow$Line"
def TX3 : u_T := fun k => match k with
  | 0 => ("ParametricFlow$Line", "start", "J", false)
  | 1 => ("ParametricFlow$Line", "slope", "J", false)
  | 2 => ("ParametricFlow$Line", "p", "J", false)
  | _ => ("ParametricFlow$Line", "q", "J", false)
def tyX3 : Nat → FieldType := fun k => match k with
  | 0 => .long
  | 1 => .long
  | 2 => .long
  | _ => .long
abbrev wsX30 : List Cond := u_ws RX3 TX3 4
theorem nmX3 : ∀ a, a < 4 → ∀ b, b < 4 → a ≠ b → (TX3 a).2.1 ≠ (TX3 b).2.1 := by decide +kernel
theorem tyX3_ok : ∀ k, k < 4 → parseFieldDescriptor (TX3 k).2.2.1 = some (tyX3 k) := by decide +kernel
abbrev cX3_init : ByteArray := prog_5_method_1_code
def yX3_init : MethodName := ⟨RX3, "<init>", "()V"⟩
abbrev cX3_touch : ByteArray := prog_5_method_2_code
def yX3_touch : MethodName := ⟨RX3, "touch", "(LParametricFlow$Network;LParametricFlow$Simplex;JJ)Z"⟩
abbrev cX3_meets : ByteArray := prog_5_method_3_code
def yX3_meets : MethodName := ⟨RX3, "meets", "(LParametricFlow$Line;)Z"⟩
abbrev cX3_copy : ByteArray := prog_5_method_4_code
def yX3_copy : MethodName := ⟨RX3, "copy", "(LParametricFlow$Line;)V"⟩
def RX4 : String := "ParametricFlow$Longs"
def TX4 : u_T := fun k => match k with
  | 0 => ("ParametricFlow$Longs", "size", "I", false)
  | _ => ("ParametricFlow$Longs", "items", "[J", false)
def tyX4 : Nat → FieldType := fun k => match k with
  | 0 => .int
  | _ => .array .long
abbrev wsX40 : List Cond := u_ws RX4 TX4 2
theorem nmX4 : ∀ a, a < 2 → ∀ b, b < 2 → a ≠ b → (TX4 a).2.1 ≠ (TX4 b).2.1 := by decide +kernel
theorem tyX4_ok : ∀ k, k < 2 → parseFieldDescriptor (TX4 k).2.2.1 = some (tyX4 k) := by decide +kernel
abbrev cX4_init : ByteArray := prog_6_method_1_code
def yX4_init : MethodName := ⟨RX4, "<init>", "()V"⟩
abbrev cX4_clear : ByteArray := prog_6_method_2_code
def yX4_clear : MethodName := ⟨RX4, "clear", "()V"⟩
abbrev cX4_add : ByteArray := prog_6_method_3_code
def yX4_add : MethodName := ⟨RX4, "add", "(J)V"⟩
abbrev cX4_at : ByteArray := prog_6_method_4_code
def yX4_at : MethodName := ⟨RX4, "at", "(I)J"⟩
def RX5 : String := "ParametricFlow$Network"
def TX5 : u_T := fun k => match k with
  | 0 => ("ParametricFlow$Network", "nodes", "I", false)
  | 1 => ("ParametricFlow$Network", "arcs", "I", false)
  | 2 => ("ParametricFlow$Network", "mode", "I", false)
  | 3 => ("ParametricFlow$Network", "supply", "[I", true)
  | 4 => ("ParametricFlow$Network", "supplySlope", "[I", true)
  | 5 => ("ParametricFlow$Network", "from", "[I", true)
  | 6 => ("ParametricFlow$Network", "to", "[I", true)
  | 7 => ("ParametricFlow$Network", "capacity", "[I", true)
  | 8 => ("ParametricFlow$Network", "cost", "[I", true)
  | _ => ("ParametricFlow$Network", "slope", "[I", true)
def tyX5 : Nat → FieldType := fun k => match k with
  | 0 => .int
  | 1 => .int
  | 2 => .int
  | 3 => .array .int
  | 4 => .array .int
  | 5 => .array .int
  | 6 => .array .int
  | 7 => .array .int
  | 8 => .array .int
  | _ => .array .int
abbrev wsX50 : List Cond := u_ws RX5 TX5 10
theorem nmX5 : ∀ a, a < 10 → ∀ b, b < 10 → a ≠ b → (TX5 a).2.1 ≠ (TX5 b).2.1 := by decide +kernel
theorem tyX5_ok : ∀ k, k < 10 → parseFieldDescriptor (TX5 k).2.2.1 = some (tyX5 k) := by decide +kernel
abbrev cX5_init : ByteArray := prog_7_method_1_code
def yX5_init : MethodName := ⟨RX5, "<init>", "()V"⟩
abbrev cX5_clear : ByteArray := prog_7_method_2_code
def yX5_clear : MethodName := ⟨RX5, "clear", "(I)V"⟩
abbrev cX5_hasNode : ByteArray := prog_7_method_3_code
def yX5_hasNode : MethodName := ⟨RX5, "hasNode", "(I)Z"⟩
abbrev cX5_hasArc : ByteArray := prog_7_method_4_code
def yX5_hasArc : MethodName := ⟨RX5, "hasArc", "(I)Z"⟩
abbrev cX5_sumOf : ByteArray := prog_7_method_5_code
def yX5_sumOf : MethodName := ⟨RX5, "sumOf", "([I)I"⟩
abbrev cX5_isBalanced : ByteArray := prog_7_method_6_code
def yX5_isBalanced : MethodName := ⟨RX5, "isBalanced", "(JJ)Z"⟩
abbrev cX5_scaledSupply : ByteArray := prog_7_method_7_code
def yX5_scaledSupply : MethodName := ⟨RX5, "scaledSupply", "(IJJ)J"⟩
abbrev cX5_scaledCapacity : ByteArray := prog_7_method_8_code
def yX5_scaledCapacity : MethodName := ⟨RX5, "scaledCapacity", "(IJ)J"⟩
abbrev cX5_scaledCost : ByteArray := prog_7_method_9_code
def yX5_scaledCost : MethodName := ⟨RX5, "scaledCost", "(IJJ)J"⟩
def RX6 : String := "ParametricFlow$Range"
def TX6 : u_T := fun k => match k with
  | 0 => ("ParametricFlow$Range", "hasLower", "Z", false)
  | 1 => ("ParametricFlow$Range", "hasUpper", "Z", false)
  | 2 => ("ParametricFlow$Range", "lowerTop", "J", false)
  | 3 => ("ParametricFlow$Range", "lowerBottom", "J", false)
  | 4 => ("ParametricFlow$Range", "upperTop", "J", false)
  | _ => ("ParametricFlow$Range", "upperBottom", "J", false)
def tyX6 : Nat → FieldType := fun k => match k with
  | 0 => .boolean
  | 1 => .boolean
  | 2 => .long
  | 3 => .long
  | 4 => .long
  | _ => .long
abbrev wsX60 : List Cond := u_ws RX6 TX6 6
theorem nmX6 : ∀ a, a < 6 → ∀ b, b < 6 → a ≠ b → (TX6 a).2.1 ≠ (TX6 b).2.1 := by decide +kernel
theorem tyX6_ok : ∀ k, k < 6 → parseFieldDescriptor (TX6 k).2.2.1 = some (tyX6 k) := by decide +kernel
abbrev cX6_init : ByteArray := prog_8_method_1_code
def yX6_init : MethodName := ⟨RX6, "<init>", "()V"⟩
abbrev cX6_clear : ByteArray := prog_8_method_2_code
def yX6_clear : MethodName := ⟨RX6, "clear", "()V"⟩
abbrev cX6_keep : ByteArray := prog_8_method_3_code
def yX6_keep : MethodName := ⟨RX6, "keep", "(JJ)V"⟩
def RX7 : String := "ParametricFlow$Simplex"
def TX7 : u_T := fun k => match k with
  | 0 => ("ParametricFlow$Simplex", "mode", "I", false)
  | 1 => ("ParametricFlow$Simplex", "p", "J", false)
  | 2 => ("ParametricFlow$Simplex", "q", "J", false)
  | 3 => ("ParametricFlow$Simplex", "arcs", "LParametricFlow$Arcs;", true)
  | 4 => ("ParametricFlow$Simplex", "tree", "LParametricFlow$Tree;", true)
  | 5 => ("ParametricFlow$Simplex", "cycle", "LParametricFlow$Cycle;", true)
  | 6 => ("ParametricFlow$Simplex", "entered", "LParametricFlow$Longs;", true)
  | 7 => ("ParametricFlow$Simplex", "left", "LParametricFlow$Longs;", true)
  | _ => ("ParametricFlow$Simplex", "range", "LParametricFlow$Range;", true)
def tyX7 : Nat → FieldType := fun k => match k with
  | 0 => .int
  | 1 => .long
  | 2 => .long
  | 3 => .object "ParametricFlow$Arcs"
  | 4 => .object "ParametricFlow$Tree"
  | 5 => .object "ParametricFlow$Cycle"
  | 6 => .object "ParametricFlow$Longs"
  | 7 => .object "ParametricFlow$Longs"
  | _ => .object "ParametricFlow$Range"
abbrev wsX70 : List Cond := u_ws RX7 TX7 9
theorem nmX7 : ∀ a, a < 9 → ∀ b, b < 9 → a ≠ b → (TX7 a).2.1 ≠ (TX7 b).2.1 := by decide +kernel
theorem tyX7_ok : ∀ k, k < 9 → parseFieldDescriptor (TX7 k).2.2.1 = some (tyX7 k) := by decide +kernel
abbrev cX7_init : ByteArray := prog_9_method_1_code
def yX7_init : MethodName := ⟨RX7, "<init>", "()V"⟩
abbrev cX7_run : ByteArray := prog_9_method_2_code
def yX7_run : MethodName := ⟨RX7, "run", "(LParametricFlow$Network;JJ)I"⟩
abbrev cX7_reduced : ByteArray := prog_9_method_3_code
def yX7_reduced : MethodName := ⟨RX7, "reduced", "(I)J"⟩
abbrev cX7_entering : ByteArray := prog_9_method_4_code
def yX7_entering : MethodName := ⟨RX7, "entering", "()I"⟩
abbrev cX7_rate : ByteArray := prog_9_method_5_code
def yX7_rate : MethodName := ⟨RX7, "rate", "(LParametricFlow$Network;)J"⟩
abbrev cX7_end : ByteArray := prog_9_method_6_code
def yX7_end : MethodName := ⟨RX7, "end", "(LParametricFlow$Network;ZZ)J"⟩
abbrev cX7_limitByCosts : ByteArray := prog_9_method_7_code
def yX7_limitByCosts : MethodName := ⟨RX7, "limitByCosts", "(LParametricFlow$Network;)V"⟩
abbrev cX7_slopeTo : ByteArray := prog_9_method_8_code
def yX7_slopeTo : MethodName := ⟨RX7, "slopeTo", "(ILParametricFlow$Network;)J"⟩
abbrev cX7_limitByFlows : ByteArray := prog_9_method_9_code
def yX7_limitByFlows : MethodName := ⟨RX7, "limitByFlows", "(LParametricFlow$Network;)V"⟩
abbrev cX7_slopeBelow : ByteArray := prog_9_method_10_code
def yX7_slopeBelow : MethodName := ⟨RX7, "slopeBelow", "(ILParametricFlow$Network;)J"⟩
def RX8 : String := "ParametricFlow$Tree"
def TX8 : u_T := fun k => match k with
  | 0 => ("ParametricFlow$Tree", "root", "I", false)
  | 1 => ("ParametricFlow$Tree", "parent", "[I", true)
  | 2 => ("ParametricFlow$Tree", "link", "[I", true)
  | 3 => ("ParametricFlow$Tree", "depth", "[I", true)
  | 4 => ("ParametricFlow$Tree", "potential", "[J", true)
  | 5 => ("ParametricFlow$Tree", "size", "[I", true)
  | 6 => ("ParametricFlow$Tree", "order", "[I", true)
  | _ => ("ParametricFlow$Tree", "waiting", "[I", true)
def tyX8 : Nat → FieldType := fun k => match k with
  | 0 => .int
  | 1 => .array .int
  | 2 => .array .int
  | 3 => .array .int
  | 4 => .array .long
  | 5 => .array .int
  | 6 => .array .int
  | _ => .array .int
abbrev wsX80 : List Cond := u_ws RX8 TX8 8
theorem nmX8 : ∀ a, a < 8 → ∀ b, b < 8 → a ≠ b → (TX8 a).2.1 ≠ (TX8 b).2.1 := by decide +kernel
theorem tyX8_ok : ∀ k, k < 8 → parseFieldDescriptor (TX8 k).2.2.1 = some (tyX8 k) := by decide +kernel
abbrev cX8_init : ByteArray := prog_10_method_1_code
def yX8_init : MethodName := ⟨RX8, "<init>", "()V"⟩
abbrev cX8_plant : ByteArray := prog_10_method_2_code
def yX8_plant : MethodName := ⟨RX8, "plant", "(LParametricFlow$Arcs;)V"⟩
abbrev cX8_measure : ByteArray := prog_10_method_3_code
def yX8_measure : MethodName := ⟨RX8, "measure", "(LParametricFlow$Arcs;)V"⟩
abbrev cX8_leadsUp : ByteArray := prog_10_method_4_code
def yX8_leadsUp : MethodName := ⟨RX8, "leadsUp", "(LParametricFlow$Arcs;I)Z"⟩
abbrev cX8_apex : ByteArray := prog_10_method_5_code
def yX8_apex : MethodName := ⟨RX8, "apex", "(II)I"⟩
abbrev cX8_rehang : ByteArray := prog_10_method_6_code
def yX8_rehang : MethodName := ⟨RX8, "rehang", "(IIII)V"⟩
abbrev cX8_isBelow : ByteArray := prog_10_method_7_code
def yX8_isBelow : MethodName := ⟨RX8, "isBelow", "(II)Z"⟩
abbrev cX8_putInOrder : ByteArray := prog_10_method_8_code
def yX8_putInOrder : MethodName := ⟨RX8, "putInOrder", "()V"⟩
def RX9 : String := "ParametricFlow"
def TX9 : u_T := fun k => match k with
  | 0 => ("ParametricFlow", "net", "LParametricFlow$Network;", true)
  | 1 => ("ParametricFlow", "curve", "LParametricFlow$Curve;", true)
  | 2 => ("ParametricFlow", "kept", "LParametricFlow$Simplex;", false)
  | 3 => ("ParametricFlow", "work", "LParametricFlow$Simplex;", false)
  | _ => ("ParametricFlow", "solved", "Z", false)
def tyX9 : Nat → FieldType := fun k => match k with
  | 0 => .object "ParametricFlow$Network"
  | 1 => .object "ParametricFlow$Curve"
  | 2 => .object "ParametricFlow$Simplex"
  | 3 => .object "ParametricFlow$Simplex"
  | _ => .boolean
abbrev wsX90 : List Cond := u_ws RX9 TX9 5
theorem nmX9 : ∀ a, a < 5 → ∀ b, b < 5 → a ≠ b → (TX9 a).2.1 ≠ (TX9 b).2.1 := by decide +kernel
theorem tyX9_ok : ∀ k, k < 5 → parseFieldDescriptor (TX9 k).2.2.1 = some (tyX9 k) := by decide +kernel
abbrev cX9_init : ByteArray := prog_1_method_1_code
def yX9_init : MethodName := ⟨RX9, "<init>", "()V"⟩
abbrev cX9_reset : ByteArray := prog_1_method_2_code
def yX9_reset : MethodName := ⟨RX9, "reset", "(I)I"⟩
abbrev cX9_addArc : ByteArray := prog_1_method_3_code
def yX9_addArc : MethodName := ⟨RX9, "addArc", "(IIIII)I"⟩
abbrev cX9_removeArc : ByteArray := prog_1_method_4_code
def yX9_removeArc : MethodName := ⟨RX9, "removeArc", "()I"⟩
abbrev cX9_setArc : ByteArray := prog_1_method_5_code
def yX9_setArc : MethodName := ⟨RX9, "setArc", "(III)I"⟩
abbrev cX9_setSupply : ByteArray := prog_1_method_6_code
def yX9_setSupply : MethodName := ⟨RX9, "setSupply", "(III)I"⟩
abbrev cX9_setMode : ByteArray := prog_1_method_7_code
def yX9_setMode : MethodName := ⟨RX9, "setMode", "(I)I"⟩
abbrev cX9_arc : ByteArray := prog_1_method_8_code
def yX9_arc : MethodName := ⟨RX9, "arc", "(II)I"⟩
abbrev cX9_network : ByteArray := prog_1_method_9_code
def yX9_network : MethodName := ⟨RX9, "network", "(I)I"⟩
abbrev cX9_solve : ByteArray := prog_1_method_10_code
def yX9_solve : MethodName := ⟨RX9, "solve", "(II)I"⟩
abbrev cX9_pivot : ByteArray := prog_1_method_11_code
def yX9_pivot : MethodName := ⟨RX9, "pivot", "(IZ)I"⟩
abbrev cX9_objective : ByteArray := prog_1_method_12_code
def yX9_objective : MethodName := ⟨RX9, "objective", "(Z)J"⟩
abbrev cX9_flow : ByteArray := prog_1_method_13_code
def yX9_flow : MethodName := ⟨RX9, "flow", "(IZ)J"⟩
abbrev cX9_reducedCost : ByteArray := prog_1_method_14_code
def yX9_reducedCost : MethodName := ⟨RX9, "reducedCost", "(I)J"⟩
abbrev cX9_potential : ByteArray := prog_1_method_15_code
def yX9_potential : MethodName := ⟨RX9, "potential", "(I)J"⟩
abbrev cX9_bound : ByteArray := prog_1_method_16_code
def yX9_bound : MethodName := ⟨RX9, "bound", "(I)I"⟩
abbrev cX9_tree : ByteArray := prog_1_method_17_code
def yX9_tree : MethodName := ⟨RX9, "tree", "(II)I"⟩
abbrev cX9_preorder : ByteArray := prog_1_method_18_code
def yX9_preorder : MethodName := ⟨RX9, "preorder", "(I)I"⟩
abbrev cX9_limit : ByteArray := prog_1_method_19_code
def yX9_limit : MethodName := ⟨RX9, "limit", "(ZZ)J"⟩
abbrev cX9_value : ByteArray := prog_1_method_20_code
def yX9_value : MethodName := ⟨RX9, "value", "(IIZ)J"⟩
abbrev cX9_problem : ByteArray := prog_1_method_21_code
def yX9_problem : MethodName := ⟨RX9, "problem", "(II)I"⟩
abbrev cX9_breakpoints : ByteArray := prog_1_method_22_code
def yX9_breakpoints : MethodName := ⟨RX9, "breakpoints", "(II)I"⟩
abbrev cX9_breakpoint : ByteArray := prog_1_method_23_code
def yX9_breakpoint : MethodName := ⟨RX9, "breakpoint", "(IIIZ)J"⟩
abbrev cX9_slope : ByteArray := prog_1_method_24_code
def yX9_slope : MethodName := ⟨RX9, "slope", "(III)J"⟩
abbrev cX9_forget : ByteArray := prog_1_method_25_code
def yX9_forget : MethodName := ⟨RX9, "forget", "()V"⟩
abbrev cX9_isWithin : ByteArray := prog_1_method_26_code
def yX9_isWithin : MethodName := ⟨RX9, "isWithin", "(III)Z"⟩
abbrev cX9_isParameter : ByteArray := prog_1_method_27_code
def yX9_isParameter : MethodName := ⟨RX9, "isParameter", "(II)Z"⟩
abbrev cX9_isInterval : ByteArray := prog_1_method_28_code
def yX9_isInterval : MethodName := ⟨RX9, "isInterval", "(II)Z"⟩
abbrev cX9_nameOf : ByteArray := prog_1_method_29_code
def yX9_nameOf : MethodName := ⟨RX9, "nameOf", "(J)I"⟩
abbrev cX9_lowestTerms : ByteArray := prog_1_method_30_code
def yX9_lowestTerms : MethodName := ⟨RX9, "lowestTerms", "(JJZ)J"⟩
abbrev cX9_commonDivisor : ByteArray := prog_1_method_31_code
def yX9_commonDivisor : MethodName := ⟨RX9, "commonDivisor", "(JJ)J"⟩
def RX10 : String := "ParametricFlowModel"
def TX10 : u_T := fun k => match k with
  | 0 => ("ParametricFlowModel", "nodes", "I", false)
  | 1 => ("ParametricFlowModel", "arcs", "I", false)
  | 2 => ("ParametricFlowModel", "mode", "I", false)
  | 3 => ("ParametricFlowModel", "fromOf", "[I", true)
  | 4 => ("ParametricFlowModel", "toOf", "[I", true)
  | 5 => ("ParametricFlowModel", "capacityOf", "[I", true)
  | 6 => ("ParametricFlowModel", "costOf", "[I", true)
  | 7 => ("ParametricFlowModel", "slopeOf", "[I", true)
  | 8 => ("ParametricFlowModel", "supplyOf", "[I", true)
  | 9 => ("ParametricFlowModel", "supplySlope", "[I", true)
  | 10 => ("ParametricFlowModel", "isSolved", "Z", false)
  | 11 => ("ParametricFlowModel", "scaledCost", "[J", true)
  | 12 => ("ParametricFlowModel", "scaledCapacity", "[J", true)
  | 13 => ("ParametricFlowModel", "flowOn", "[J", true)
  | 14 => ("ParametricFlowModel", "boundOf", "[I", true)
  | 15 => ("ParametricFlowModel", "headOf", "[I", true)
  | 16 => ("ParametricFlowModel", "tailOf", "[I", true)
  | 17 => ("ParametricFlowModel", "supplyNow", "[J", true)
  | 18 => ("ParametricFlowModel", "parentOf", "[I", true)
  | 19 => ("ParametricFlowModel", "arcUp", "[I", true)
  | 20 => ("ParametricFlowModel", "depthOf", "[I", true)
  | 21 => ("ParametricFlowModel", "potentialOf", "[J", true)
  | 22 => ("ParametricFlowModel", "unit", "J", false)
  | 23 => ("ParametricFlowModel", "pivots", "I", false)
  | 24 => ("ParametricFlowModel", "entered", "[I", true)
  | 25 => ("ParametricFlowModel", "left", "[I", true)
  | 26 => ("ParametricFlowModel", "cycleLong", "I", false)
  | 27 => ("ParametricFlowModel", "cycleArc", "[I", true)
  | 28 => ("ParametricFlowModel", "cycleAlong", "[Z", true)
  | 29 => ("ParametricFlowModel", "solvedP", "I", false)
  | 30 => ("ParametricFlowModel", "solvedQ", "I", false)
  | 31 => ("ParametricFlowModel", "hasLow", "Z", false)
  | 32 => ("ParametricFlowModel", "lowOver", "J", false)
  | 33 => ("ParametricFlowModel", "lowUnder", "J", false)
  | 34 => ("ParametricFlowModel", "hasHigh", "Z", false)
  | 35 => ("ParametricFlowModel", "highOver", "J", false)
  | 36 => ("ParametricFlowModel", "highUnder", "J", false)
  | 37 => ("ParametricFlowModel", "first", "[J", true)
  | 38 => ("ParametricFlowModel", "second", "[J", true)
  | 39 => ("ParametricFlowModel", "points", "I", false)
  | 40 => ("ParametricFlowModel", "pointOver", "[J", true)
  | 41 => ("ParametricFlowModel", "pointUnder", "[J", true)
  | 42 => ("ParametricFlowModel", "lineConstant", "[J", true)
  | 43 => ("ParametricFlowModel", "lineSlope", "[J", true)
  | 44 => ("ParametricFlowModel", "isKnown", "[Z", true)
  | 45 => ("ParametricFlowModel", "stretchSlope", "[J", true)
  | 46 => ("ParametricFlowModel", "lineFrom", "J", false)
  | _ => ("ParametricFlowModel", "lineRise", "J", false)
def tyX10 : Nat → FieldType := fun k => match k with
  | 0 => .int
  | 1 => .int
  | 2 => .int
  | 3 => .array .int
  | 4 => .array .int
  | 5 => .array .int
  | 6 => .array .int
  | 7 => .array .int
  | 8 => .array .int
  | 9 => .array .int
  | 10 => .boolean
  | 11 => .array .long
  | 12 => .array .long
  | 13 => .array .long
  | 14 => .array .int
  | 15 => .array .int
  | 16 => .array .int
  | 17 => .array .long
  | 18 => .array .int
  | 19 => .array .int
  | 20 => .array .int
  | 21 => .array .long
  | 22 => .long
  | 23 => .int
  | 24 => .array .int
  | 25 => .array .int
  | 26 => .int
  | 27 => .array .int
  | 28 => .array .boolean
  | 29 => .int
  | 30 => .int
  | 31 => .boolean
  | 32 => .long
  | 33 => .long
  | 34 => .boolean
  | 35 => .long
  | 36 => .long
  | 37 => .array .long
  | 38 => .array .long
  | 39 => .int
  | 40 => .array .long
  | 41 => .array .long
  | 42 => .array .long
  | 43 => .array .long
  | 44 => .array .boolean
  | 45 => .array .long
  | 46 => .long
  | _ => .long
abbrev wsX100 : List Cond := u_ws RX10 TX10 48
theorem nmX10 : ∀ a, a < 48 → ∀ b, b < 48 → a ≠ b → (TX10 a).2.1 ≠ (TX10 b).2.1 := by decide +kernel
theorem tyX10_ok : ∀ k, k < 48 → parseFieldDescriptor (TX10 k).2.2.1 = some (tyX10 k) := by decide +kernel
abbrev cX10_init : ByteArray := prog_12_method_1_code
def yX10_init : MethodName := ⟨RX10, "<init>", "()V"⟩
abbrev cX10_in : ByteArray := prog_12_method_2_code
def yX10_in : MethodName := ⟨RX10, "in", "(III)Z"⟩
abbrev cX10_lost : ByteArray := prog_12_method_3_code
def yX10_lost : MethodName := ⟨RX10, "lost", "()J"⟩
abbrev cX10_size : ByteArray := prog_12_method_4_code
def yX10_size : MethodName := ⟨RX10, "size", "(J)J"⟩
abbrev cX10_common : ByteArray := prog_12_method_5_code
def yX10_common : MethodName := ⟨RX10, "common", "(JJ)J"⟩
abbrev cX10_part : ByteArray := prog_12_method_6_code
def yX10_part : MethodName := ⟨RX10, "part", "(JJZ)J"⟩
abbrev cX10_begin : ByteArray := prog_12_method_7_code
def yX10_begin : MethodName := ⟨RX10, "begin", "(I)V"⟩
abbrev cX10_reset : ByteArray := prog_12_method_8_code
def yX10_reset : MethodName := ⟨RX10, "reset", "(I)I"⟩
abbrev cX10_noNode : ByteArray := prog_12_method_9_code
def yX10_noNode : MethodName := ⟨RX10, "noNode", "(I)Z"⟩
abbrev cX10_noArc : ByteArray := prog_12_method_10_code
def yX10_noArc : MethodName := ⟨RX10, "noArc", "(I)Z"⟩
abbrev cX10_isCapacity : ByteArray := prog_12_method_11_code
def yX10_isCapacity : MethodName := ⟨RX10, "isCapacity", "(I)Z"⟩
abbrev cX10_isCost : ByteArray := prog_12_method_12_code
def yX10_isCost : MethodName := ⟨RX10, "isCost", "(I)Z"⟩
abbrev cX10_isSlope : ByteArray := prog_12_method_13_code
def yX10_isSlope : MethodName := ⟨RX10, "isSlope", "(I)Z"⟩
abbrev cX10_addArc : ByteArray := prog_12_method_14_code
def yX10_addArc : MethodName := ⟨RX10, "addArc", "(IIIII)I"⟩
abbrev cX10_removeArc : ByteArray := prog_12_method_15_code
def yX10_removeArc : MethodName := ⟨RX10, "removeArc", "()I"⟩
abbrev cX10_setArc : ByteArray := prog_12_method_16_code
def yX10_setArc : MethodName := ⟨RX10, "setArc", "(III)I"⟩
abbrev cX10_setSupply : ByteArray := prog_12_method_17_code
def yX10_setSupply : MethodName := ⟨RX10, "setSupply", "(III)I"⟩
abbrev cX10_setMode : ByteArray := prog_12_method_18_code
def yX10_setMode : MethodName := ⟨RX10, "setMode", "(I)I"⟩
abbrev cX10_arc : ByteArray := prog_12_method_19_code
def yX10_arc : MethodName := ⟨RX10, "arc", "(II)I"⟩
abbrev cX10_sumOf : ByteArray := prog_12_method_20_code
def yX10_sumOf : MethodName := ⟨RX10, "sumOf", "(Z)I"⟩
abbrev cX10_network : ByteArray := prog_12_method_21_code
def yX10_network : MethodName := ⟨RX10, "network", "(I)I"⟩
abbrev cX10_isBalanced : ByteArray := prog_12_method_22_code
def yX10_isBalanced : MethodName := ⟨RX10, "isBalanced", "(JJ)Z"⟩
abbrev cX10_lay : ByteArray := prog_12_method_23_code
def yX10_lay : MethodName := ⟨RX10, "lay", "(JJ)V"⟩
abbrev cX10_layDepths : ByteArray := prog_12_method_24_code
def yX10_layDepths : MethodName := ⟨RX10, "layDepths", "()V"⟩
abbrev cX10_reduced : ByteArray := prog_12_method_25_code
def yX10_reduced : MethodName := ⟨RX10, "reduced", "(I)J"⟩
abbrev cX10_entering : ByteArray := prog_12_method_26_code
def yX10_entering : MethodName := ⟨RX10, "entering", "()I"⟩
abbrev cX10_apexOf : ByteArray := prog_12_method_27_code
def yX10_apexOf : MethodName := ⟨RX10, "apexOf", "(II)I"⟩
abbrev cX10_layCycle : ByteArray := prog_12_method_28_code
def yX10_layCycle : MethodName := ⟨RX10, "layCycle", "(I)V"⟩
abbrev cX10_room : ByteArray := prog_12_method_29_code
def yX10_room : MethodName := ⟨RX10, "room", "(I)J"⟩
abbrev cX10_hang : ByteArray := prog_12_method_30_code
def yX10_hang : MethodName := ⟨RX10, "hang", "(IIII)V"⟩
abbrev cX10_isBelow : ByteArray := prog_12_method_31_code
def yX10_isBelow : MethodName := ⟨RX10, "isBelow", "(II)Z"⟩
abbrev cX10_pivotBy : ByteArray := prog_12_method_32_code
def yX10_pivotBy : MethodName := ⟨RX10, "pivotBy", "(I)V"⟩
abbrev cX10_tryAt : ByteArray := prog_12_method_33_code
def yX10_tryAt : MethodName := ⟨RX10, "tryAt", "(JJ)I"⟩
abbrev cX10_valueNow : ByteArray := prog_12_method_34_code
def yX10_valueNow : MethodName := ⟨RX10, "valueNow", "()J"⟩
abbrev cX10_findAgain : ByteArray := prog_12_method_35_code
def yX10_findAgain : MethodName := ⟨RX10, "findAgain", "()V"⟩
abbrev cX10_isParameter : ByteArray := prog_12_method_36_code
def yX10_isParameter : MethodName := ⟨RX10, "isParameter", "(II)Z"⟩
abbrev cX10_solve : ByteArray := prog_12_method_37_code
def yX10_solve : MethodName := ⟨RX10, "solve", "(II)I"⟩
abbrev cX10_told : ByteArray := prog_12_method_38_code
def yX10_told : MethodName := ⟨RX10, "told", "(I)I"⟩
abbrev cX10_pivot : ByteArray := prog_12_method_39_code
def yX10_pivot : MethodName := ⟨RX10, "pivot", "(IZ)I"⟩
abbrev cX10_objective : ByteArray := prog_12_method_40_code
def yX10_objective : MethodName := ⟨RX10, "objective", "(Z)J"⟩
abbrev cX10_flow : ByteArray := prog_12_method_41_code
def yX10_flow : MethodName := ⟨RX10, "flow", "(IZ)J"⟩
abbrev cX10_reducedCost : ByteArray := prog_12_method_42_code
def yX10_reducedCost : MethodName := ⟨RX10, "reducedCost", "(I)J"⟩
abbrev cX10_potential : ByteArray := prog_12_method_43_code
def yX10_potential : MethodName := ⟨RX10, "potential", "(I)J"⟩
abbrev cX10_bound : ByteArray := prog_12_method_44_code
def yX10_bound : MethodName := ⟨RX10, "bound", "(I)I"⟩
abbrev cX10_tree : ByteArray := prog_12_method_45_code
def yX10_tree : MethodName := ⟨RX10, "tree", "(II)I"⟩
abbrev cX10_after : ByteArray := prog_12_method_46_code
def yX10_after : MethodName := ⟨RX10, "after", "(I)I"⟩
abbrev cX10_preorder : ByteArray := prog_12_method_47_code
def yX10_preorder : MethodName := ⟨RX10, "preorder", "(I)I"⟩
abbrev cX10_bind : ByteArray := prog_12_method_48_code
def yX10_bind : MethodName := ⟨RX10, "bind", "(JJ)V"⟩
abbrev cX10_findInterval : ByteArray := prog_12_method_49_code
def yX10_findInterval : MethodName := ⟨RX10, "findInterval", "()V"⟩
abbrev cX10_bindCosts : ByteArray := prog_12_method_50_code
def yX10_bindCosts : MethodName := ⟨RX10, "bindCosts", "()V"⟩
abbrev cX10_bindFlows : ByteArray := prog_12_method_51_code
def yX10_bindFlows : MethodName := ⟨RX10, "bindFlows", "()V"⟩
abbrev cX10_limit : ByteArray := prog_12_method_52_code
def yX10_limit : MethodName := ⟨RX10, "limit", "(ZZ)J"⟩
abbrev cX10_layLine : ByteArray := prog_12_method_53_code
def yX10_layLine : MethodName := ⟨RX10, "layLine", "()V"⟩
abbrev cX10_insertPoint : ByteArray := prog_12_method_54_code
def yX10_insertPoint : MethodName := ⟨RX10, "insertPoint", "(IJJ)V"⟩
abbrev cX10_know : ByteArray := prog_12_method_55_code
def yX10_know : MethodName := ⟨RX10, "know", "(IJ)V"⟩
abbrev cX10_split : ByteArray := prog_12_method_56_code
def yX10_split : MethodName := ⟨RX10, "split", "(I)V"⟩
abbrev cX10_findFunction : ByteArray := prog_12_method_57_code
def yX10_findFunction : MethodName := ⟨RX10, "findFunction", "(II)I"⟩
abbrev cX10_isBend : ByteArray := prog_12_method_58_code
def yX10_isBend : MethodName := ⟨RX10, "isBend", "(I)Z"⟩
abbrev cX10_isSpan : ByteArray := prog_12_method_59_code
def yX10_isSpan : MethodName := ⟨RX10, "isSpan", "(II)Z"⟩
abbrev cX10_value : ByteArray := prog_12_method_60_code
def yX10_value : MethodName := ⟨RX10, "value", "(IIZ)J"⟩
abbrev cX10_problem : ByteArray := prog_12_method_61_code
def yX10_problem : MethodName := ⟨RX10, "problem", "(II)I"⟩
abbrev cX10_breakpoints : ByteArray := prog_12_method_62_code
def yX10_breakpoints : MethodName := ⟨RX10, "breakpoints", "(II)I"⟩
abbrev cX10_breakpoint : ByteArray := prog_12_method_63_code
def yX10_breakpoint : MethodName := ⟨RX10, "breakpoint", "(IIIZ)J"⟩
abbrev cX10_slope : ByteArray := prog_12_method_64_code
def yX10_slope : MethodName := ⟨RX10, "slope", "(III)J"⟩
def RJx145de : String := "java/io/Serializable"
def TJx145de : u_T := fun k => match k with
  | _ => ("", "", "", false)
def tyJx145de : Nat → FieldType := fun k => match k with
  | _ => .int
abbrev wsJx145de0 : List Cond := u_ws RJx145de TJx145de 0
theorem nmJx145de : ∀ a, a < 0 → ∀ b, b < 0 → a ≠ b → (TJx145de a).2.1 ≠ (TJx145de b).2.1 := by decide +kernel
theorem tyJx145de_ok : ∀ k, k < 0 → parseFieldDescriptor (TJx145de k).2.2.1 = some (tyJx145de k) := by decide +kernel
def RJx8e188 : String := "java/lang/Cloneable"
def TJx8e188 : u_T := fun k => match k with
  | _ => ("", "", "", false)
def tyJx8e188 : Nat → FieldType := fun k => match k with
  | _ => .int
abbrev wsJx8e1880 : List Cond := u_ws RJx8e188 TJx8e188 0
theorem nmJx8e188 : ∀ a, a < 0 → ∀ b, b < 0 → a ≠ b → (TJx8e188 a).2.1 ≠ (TJx8e188 b).2.1 := by decide +kernel
theorem tyJx8e188_ok : ∀ k, k < 0 → parseFieldDescriptor (TJx8e188 k).2.2.1 = some (tyJx8e188 k) := by decide +kernel
def RJxab1ab : String := "java/lang/Iterable"
def TJxab1ab : u_T := fun k => match k with
  | _ => ("", "", "", false)
def tyJxab1ab : Nat → FieldType := fun k => match k with
  | _ => .int
abbrev wsJxab1ab0 : List Cond := u_ws RJxab1ab TJxab1ab 0
theorem nmJxab1ab : ∀ a, a < 0 → ∀ b, b < 0 → a ≠ b → (TJxab1ab a).2.1 ≠ (TJxab1ab b).2.1 := by decide +kernel
theorem tyJxab1ab_ok : ∀ k, k < 0 → parseFieldDescriptor (TJxab1ab k).2.2.1 = some (tyJxab1ab k) := by decide +kernel
def RJ9 : String := "java/lang/Math"
def TJ9 : u_T := fun k => match k with
  | _ => ("", "", "", false)
def tyJ9 : Nat → FieldType := fun k => match k with
  | _ => .int
abbrev wsJ90 : List Cond := u_ws RJ9 TJ9 0
theorem nmJ9 : ∀ a, a < 0 → ∀ b, b < 0 → a ≠ b → (TJ9 a).2.1 ≠ (TJ9 b).2.1 := by decide +kernel
theorem tyJ9_ok : ∀ k, k < 0 → parseFieldDescriptor (TJ9 k).2.2.1 = some (tyJ9 k) := by decide +kernel
abbrev cJ9_abs_067f4 : ByteArray := prog_16_method_61_code
def yJ9_abs_067f4 : MethodName := ⟨RJ9, "abs", "(J)J"⟩
abbrev cJ9_max_7cf53 : ByteArray := prog_16_method_65_code
def yJ9_max_7cf53 : MethodName := ⟨RJ9, "max", "(II)I"⟩
abbrev cJ9_max_f86c9 : ByteArray := prog_16_method_66_code
def yJ9_max_f86c9 : MethodName := ⟨RJ9, "max", "(JJ)J"⟩
abbrev cJ9_min_7cf53 : ByteArray := prog_16_method_69_code
def yJ9_min_7cf53 : MethodName := ⟨RJ9, "min", "(II)I"⟩
def RJ10 : String := "java/lang/System"
def TJ10 : u_T := fun k => match k with
  | _ => ("", "", "", false)
def tyJ10 : Nat → FieldType := fun k => match k with
  | _ => .int
abbrev wsJ100 : List Cond := u_ws RJ10 TJ10 0
theorem nmJ10 : ∀ a, a < 0 → ∀ b, b < 0 → a ≠ b → (TJ10 a).2.1 ≠ (TJ10 b).2.1 := by decide +kernel
theorem tyJ10_ok : ∀ k, k < 0 → parseFieldDescriptor (TJ10 k).2.2.1 = some (tyJ10 k) := by decide +kernel
def RJxa1e45 : String := "java/util/AbstractCollection"
def TJxa1e45 : u_T := fun k => match k with
  | _ => ("", "", "", false)
def tyJxa1e45 : Nat → FieldType := fun k => match k with
  | _ => .int
abbrev wsJxa1e450 : List Cond := u_ws RJxa1e45 TJxa1e45 0
theorem nmJxa1e45 : ∀ a, a < 0 → ∀ b, b < 0 → a ≠ b → (TJxa1e45 a).2.1 ≠ (TJxa1e45 b).2.1 := by decide +kernel
theorem tyJxa1e45_ok : ∀ k, k < 0 → parseFieldDescriptor (TJxa1e45 k).2.2.1 = some (tyJxa1e45 k) := by decide +kernel
abbrev cJxa1e45_init_da8c8 : ByteArray := prog_18_method_1_code
def yJxa1e45_init_da8c8 : MethodName := ⟨RJxa1e45, "<init>", "()V"⟩
def RJxc12de : String := "java/util/AbstractList"
def TJxc12de : u_T := fun k => match k with
  | _ => ("", "", "", false)
def tyJxc12de : Nat → FieldType := fun k => match k with
  | _ => .int
abbrev wsJxc12de0 : List Cond := u_ws RJxc12de TJxc12de 0
theorem nmJxc12de : ∀ a, a < 0 → ∀ b, b < 0 → a ≠ b → (TJxc12de a).2.1 ≠ (TJxc12de b).2.1 := by decide +kernel
theorem tyJxc12de_ok : ∀ k, k < 0 → parseFieldDescriptor (TJxc12de k).2.2.1 = some (tyJxc12de k) := by decide +kernel
abbrev cJxc12de_init_da8c8 : ByteArray := prog_19_method_1_code
def yJxc12de_init_da8c8 : MethodName := ⟨RJxc12de, "<init>", "()V"⟩
def RJx4a65c : String := "java/util/ArrayList"
def TJx4a65c : u_T := fun k => match k with
  | 0 => ("java/util/AbstractList", "modCount", "I", false)
  | 1 => ("java/util/ArrayList", "elementData", "[Ljava/lang/Object;", false)
  | _ => ("java/util/ArrayList", "size", "I", false)
def tyJx4a65c : Nat → FieldType := fun k => match k with
  | 0 => .int
  | 1 => .array (.object "java/lang/Object")
  | _ => .int
abbrev wsJx4a65c0 : List Cond := u_ws RJx4a65c TJx4a65c 3
theorem nmJx4a65c : ∀ a, a < 3 → ∀ b, b < 3 → a ≠ b → (TJx4a65c a).2.1 ≠ (TJx4a65c b).2.1 := by decide +kernel
theorem tyJx4a65c_ok : ∀ k, k < 3 → parseFieldDescriptor (TJx4a65c k).2.2.1 = some (tyJx4a65c k) := by decide +kernel
abbrev cJx4a65c_init_da8c8 : ByteArray := prog_20_method_2_code
def yJx4a65c_init_da8c8 : MethodName := ⟨RJx4a65c, "<init>", "()V"⟩
abbrev cJx4a65c_grow_92f84 : ByteArray := prog_20_method_6_code
def yJx4a65c_grow_92f84 : MethodName := ⟨RJx4a65c, "grow", "(I)[Ljava/lang/Object;"⟩
abbrev cJx4a65c_grow_d5877 : ByteArray := prog_20_method_7_code
def yJx4a65c_grow_d5877 : MethodName := ⟨RJx4a65c, "grow", "()[Ljava/lang/Object;"⟩
abbrev cJx4a65c_size_8abf5 : ByteArray := prog_20_method_8_code
def yJx4a65c_size_8abf5 : MethodName := ⟨RJx4a65c, "size", "()I"⟩
abbrev cJx4a65c_elementData_915e3 : ByteArray := prog_20_method_18_code
def yJx4a65c_elementData_915e3 : MethodName := ⟨RJx4a65c, "elementData", "(I)Ljava/lang/Object;"⟩
abbrev cJx4a65c_get_915e3 : ByteArray := prog_20_method_20_code
def yJx4a65c_get_915e3 : MethodName := ⟨RJx4a65c, "get", "(I)Ljava/lang/Object;"⟩
abbrev cJx4a65c_add_72be8 : ByteArray := prog_20_method_24_code
def yJx4a65c_add_72be8 : MethodName := ⟨RJx4a65c, "add", "(Ljava/lang/Object;[Ljava/lang/Object;I)V"⟩
abbrev cJx4a65c_add_9ea2d : ByteArray := prog_20_method_25_code
def yJx4a65c_add_9ea2d : MethodName := ⟨RJx4a65c, "add", "(Ljava/lang/Object;)Z"⟩
def RJ7 : String := "java/util/Arrays"
def TJ7 : u_T := fun k => match k with
  | _ => ("", "", "", false)
def tyJ7 : Nat → FieldType := fun k => match k with
  | _ => .int
abbrev wsJ70 : List Cond := u_ws RJ7 TJ7 0
theorem nmJ7 : ∀ a, a < 0 → ∀ b, b < 0 → a ≠ b → (TJ7 a).2.1 ≠ (TJ7 b).2.1 := by decide +kernel
theorem tyJ7_ok : ∀ k, k < 0 → parseFieldDescriptor (TJ7 k).2.2.1 = some (tyJ7 k) := by decide +kernel
abbrev cJ7_fill_53178 : ByteArray := prog_21_method_103_code
def yJ7_fill_53178 : MethodName := ⟨RJ7, "fill", "([II)V"⟩
abbrev cJ7_copyOf_1904c : ByteArray := prog_21_method_119_code
def yJ7_copyOf_1904c : MethodName := ⟨RJ7, "copyOf", "([Ljava/lang/Object;I)[Ljava/lang/Object;"⟩
abbrev cJ7_copyOf_6403c : ByteArray := prog_21_method_120_code
def yJ7_copyOf_6403c : MethodName := ⟨RJ7, "copyOf", "([Ljava/lang/Object;ILjava/lang/Class;)[Ljava/lang/Object;"⟩
abbrev cJ7_copyOf_c38d5 : ByteArray := prog_21_method_124_code
def yJ7_copyOf_c38d5 : MethodName := ⟨RJ7, "copyOf", "([JI)[J"⟩
def RJx5ef63 : String := "java/util/Collection"
def TJx5ef63 : u_T := fun k => match k with
  | _ => ("", "", "", false)
def tyJx5ef63 : Nat → FieldType := fun k => match k with
  | _ => .int
abbrev wsJx5ef630 : List Cond := u_ws RJx5ef63 TJx5ef63 0
theorem nmJx5ef63 : ∀ a, a < 0 → ∀ b, b < 0 → a ≠ b → (TJx5ef63 a).2.1 ≠ (TJx5ef63 b).2.1 := by decide +kernel
theorem tyJx5ef63_ok : ∀ k, k < 0 → parseFieldDescriptor (TJx5ef63 k).2.2.1 = some (tyJx5ef63 k) := by decide +kernel
def RJxbd725 : String := "java/util/List"
def TJxbd725 : u_T := fun k => match k with
  | _ => ("", "", "", false)
def tyJxbd725 : Nat → FieldType := fun k => match k with
  | _ => .int
abbrev wsJxbd7250 : List Cond := u_ws RJxbd725 TJxbd725 0
theorem nmJxbd725 : ∀ a, a < 0 → ∀ b, b < 0 → a ≠ b → (TJxbd725 a).2.1 ≠ (TJxbd725 b).2.1 := by decide +kernel
theorem tyJxbd725_ok : ∀ k, k < 0 → parseFieldDescriptor (TJxbd725 k).2.2.1 = some (tyJxbd725 k) := by decide +kernel
def RJ15 : String := "java/util/Objects"
def TJ15 : u_T := fun k => match k with
  | _ => ("", "", "", false)
def tyJ15 : Nat → FieldType := fun k => match k with
  | _ => .int
abbrev wsJ150 : List Cond := u_ws RJ15 TJ15 0
theorem nmJ15 : ∀ a, a < 0 → ∀ b, b < 0 → a ≠ b → (TJ15 a).2.1 ≠ (TJ15 b).2.1 := by decide +kernel
theorem tyJ15_ok : ∀ k, k < 0 → parseFieldDescriptor (TJ15 k).2.2.1 = some (tyJ15 k) := by decide +kernel
abbrev cJ15_checkIndex_7cf53 : ByteArray := prog_24_method_17_code
def yJ15_checkIndex_7cf53 : MethodName := ⟨RJ15, "checkIndex", "(II)I"⟩
def RJxf0a74 : String := "java/util/RandomAccess"
def TJxf0a74 : u_T := fun k => match k with
  | _ => ("", "", "", false)
def tyJxf0a74 : Nat → FieldType := fun k => match k with
  | _ => .int
abbrev wsJxf0a740 : List Cond := u_ws RJxf0a74 TJxf0a74 0
theorem nmJxf0a74 : ∀ a, a < 0 → ∀ b, b < 0 → a ≠ b → (TJxf0a74 a).2.1 ≠ (TJxf0a74 b).2.1 := by decide +kernel
theorem tyJxf0a74_ok : ∀ k, k < 0 → parseFieldDescriptor (TJxf0a74 k).2.2.1 = some (tyJxf0a74 k) := by decide +kernel
def RJxa66e6 : String := "java/util/SequencedCollection"
def TJxa66e6 : u_T := fun k => match k with
  | _ => ("", "", "", false)
def tyJxa66e6 : Nat → FieldType := fun k => match k with
  | _ => .int
abbrev wsJxa66e60 : List Cond := u_ws RJxa66e6 TJxa66e6 0
theorem nmJxa66e6 : ∀ a, a < 0 → ∀ b, b < 0 → a ≠ b → (TJxa66e6 a).2.1 ≠ (TJxa66e6 b).2.1 := by decide +kernel
theorem tyJxa66e6_ok : ∀ k, k < 0 → parseFieldDescriptor (TJxa66e6 k).2.2.1 = some (tyJxa66e6 k) := by decide +kernel
def RJ8 : String := "jdk/internal/util/ArraysSupport"
def TJ8 : u_T := fun k => match k with
  | _ => ("", "", "", false)
def tyJ8 : Nat → FieldType := fun k => match k with
  | _ => .int
abbrev wsJ80 : List Cond := u_ws RJ8 TJ8 0
theorem nmJ8 : ∀ a, a < 0 → ∀ b, b < 0 → a ≠ b → (TJ8 a).2.1 ≠ (TJ8 b).2.1 := by decide +kernel
theorem tyJ8_ok : ∀ k, k < 0 → parseFieldDescriptor (TJ8 k).2.2.1 = some (tyJ8 k) := by decide +kernel
abbrev cJ8_newLength_cabcc : ByteArray := prog_27_method_27_code
def yJ8_newLength_cabcc : MethodName := ⟨RJ8, "newLength", "(III)I"⟩
abbrev cJ8_hugeLength_7cf53 : ByteArray := prog_27_method_28_code
def yJ8_hugeLength_7cf53 : MethodName := ⟨RJ8, "hugeLength", "(II)I"⟩
def RJ3 : String := "jdk/internal/util/Preconditions"
def TJ3 : u_T := fun k => match k with
  | _ => ("", "", "", false)
def tyJ3 : Nat → FieldType := fun k => match k with
  | _ => .int
abbrev wsJ30 : List Cond := u_ws RJ3 TJ3 0
theorem nmJ3 : ∀ a, a < 0 → ∀ b, b < 0 → a ≠ b → (TJ3 a).2.1 ≠ (TJ3 b).2.1 := by decide +kernel
theorem tyJ3_ok : ∀ k, k < 0 → parseFieldDescriptor (TJ3 k).2.2.1 = some (tyJ3 k) := by decide +kernel
abbrev cJ3_checkIndex_8e157 : ByteArray := prog_28_method_11_code
def yJ3_checkIndex_8e157 : MethodName := ⟨RJ3, "checkIndex", "(IILjava/util/function/BiFunction;)I"⟩
def RL : String := "ParametricFlowLaw"
abbrev cL_law : ByteArray := code
def yL_law : MethodName := ⟨RL, "law", "([I)Z"⟩
def wsX0_init : List Cond := .code yX0_init cX0_init 1 none :: ([.methodLink RX0 3 objectInit, .instanceMethod objectInit, .code objectInit ⟨#[0xb1]⟩ 1 none, .arrayClass .int, .fieldLink RX0 9 "ParametricFlow$Arcs" "from" "[I", .fieldLink RX0 15 "ParametricFlow$Arcs" "to" "[I", .arrayClass .long, .fieldLink RX0 18 "ParametricFlow$Arcs" "capacity" "[J", .fieldLink RX0 22 "ParametricFlow$Arcs" "cost" "[J", .fieldLink RX0 25 "ParametricFlow$Arcs" "flow" "[J", .fieldLink RX0 28 "ParametricFlow$Arcs" "place" "[I"] ++ wsX00)
def wsX5_scaledSupply : List Cond := .code yX5_scaledSupply cX5_scaledSupply 6 (some .long) :: ([.fieldLink RX5 15 "ParametricFlow$Network" "mode" "I", .fieldLink RX5 18 "ParametricFlow$Network" "supply" "[I", .fieldLink RX5 22 "ParametricFlow$Network" "supplySlope" "[I"] ++ wsX50)
def wsX0_loadArtificial : List Cond := .code yX0_loadArtificial cX0_loadArtificial 7 none :: ([.fieldLink RX0 9 "ParametricFlow$Arcs" "from" "[I", .fieldLink RX0 37 "ParametricFlow$Arcs" "nodes" "I", .fieldLink RX0 15 "ParametricFlow$Arcs" "to" "[I", .fieldLink RX0 18 "ParametricFlow$Arcs" "capacity" "[J", .constantLong RX0 71 (1152921504606846976), .fieldLink RX0 22 "ParametricFlow$Arcs" "cost" "[J", .fieldLink RX0 25 "ParametricFlow$Arcs" "flow" "[J", .methodLink RX0 54 Lib.MathLoose.abs_long.x, .static Lib.MathLoose.abs_long.x, .initialized "java/lang/Math", .code Lib.MathLoose.abs_long.x Lib.MathLoose.abs_long.code 2 (some .long), .fieldLink RX0 28 "ParametricFlow$Arcs" "place" "[I"] ++ wsX00)
def wsX0_load_r1 : List Cond := [Cond.fieldLink RX0 31 "ParametricFlow$Network" "nodes" "I", Cond.fieldLink RX0 37 "ParametricFlow$Arcs" "nodes" "I", Cond.fieldLink RX0 38 "ParametricFlow$Network" "arcs" "I", Cond.fieldLink RX0 41 "ParametricFlow$Arcs" "count" "I", Cond.fieldLink RX0 9 "ParametricFlow$Arcs" "from" "[I", Cond.fieldLink RX0 44 "ParametricFlow$Network" "from" "[I", Cond.fieldLink RX0 15 "ParametricFlow$Arcs" "to" "[I", Cond.fieldLink RX0 45 "ParametricFlow$Network" "to" "[I", Cond.fieldLink RX0 18 "ParametricFlow$Arcs" "capacity" "[J", Cond.fieldLink RX0 22 "ParametricFlow$Arcs" "cost" "[J", Cond.fieldLink RX0 25 "ParametricFlow$Arcs" "flow" "[J", Cond.fieldLink RX0 28 "ParametricFlow$Arcs" "place" "[I", Cond.methodLink RX0 54 Lib.MathLoose.abs_long.x, Cond.static Lib.MathLoose.abs_long.x, Cond.initialized "java/lang/Math", Cond.code Lib.MathLoose.abs_long.x Lib.MathLoose.abs_long.code 2 (some .long), Cond.methodLink RX0 60 Lib.MathLoose.max_long.x, Cond.static Lib.MathLoose.max_long.x, Cond.code Lib.MathLoose.max_long.x Lib.MathLoose.max_long.code 4 (some .long), Cond.methodLink RX0 46 yX5_scaledCapacity, Cond.instanceMethod yX5_scaledCapacity, Cond.selects RX5 yX5_scaledCapacity yX5_scaledCapacity, Cond.initialized RX5, Cond.code yX5_scaledCapacity cX5_scaledCapacity 4 (some .long)]
def wsX0_load_r2 : List Cond := [Cond.fieldLink RX5 15 "ParametricFlow$Network" "mode" "I", Cond.fieldLink RX5 31 "ParametricFlow$Network" "capacity" "[I", Cond.methodLink RX0 50 yX5_scaledCost, Cond.instanceMethod yX5_scaledCost, Cond.selects RX5 yX5_scaledCost yX5_scaledCost, Cond.code yX5_scaledCost cX5_scaledCost 6 (some .long), Cond.fieldLink RX5 34 "ParametricFlow$Network" "cost" "[I", Cond.fieldLink RX5 37 "ParametricFlow$Network" "slope" "[I", Cond.methodLink RX0 64 yX5_scaledSupply, Cond.instanceMethod yX5_scaledSupply, Cond.selects RX5 yX5_scaledSupply yX5_scaledSupply, Cond.code yX5_scaledSupply cX5_scaledSupply 6 (some .long), Cond.fieldLink RX5 18 "ParametricFlow$Network" "supply" "[I", Cond.fieldLink RX5 22 "ParametricFlow$Network" "supplySlope" "[I", Cond.methodLink RX0 67 yX0_loadArtificial, Cond.instanceMethod yX0_loadArtificial, Cond.selects RX0 yX0_loadArtificial yX0_loadArtificial, Cond.initialized RX0, Cond.code yX0_loadArtificial cX0_loadArtificial 7 none, Cond.constantLong RX0 71 (1152921504606846976)]
def wsX0_load : List Cond := .code yX0_load cX0_load 9 none :: ((wsX0_load_r1 ++ wsX0_load_r2) ++ wsX50 ++ wsX00)
def wsX0_hasArtificialFlow : List Cond := .code yX0_hasArtificialFlow cX0_hasArtificialFlow 2 (some .boolean) :: ([.fieldLink RX0 37 "ParametricFlow$Arcs" "nodes" "I", .fieldLink RX0 25 "ParametricFlow$Arcs" "flow" "[J"] ++ wsX00)
def wsX0_totalCost : List Cond := .code yX0_totalCost cX0_totalCost 4 (some .long) :: ([.fieldLink RX0 41 "ParametricFlow$Arcs" "count" "I", .fieldLink RX0 25 "ParametricFlow$Arcs" "flow" "[J", .fieldLink RX0 22 "ParametricFlow$Arcs" "cost" "[J"] ++ wsX00)
def wsX4_init : List Cond := .code yX4_init cX4_init 1 none :: ([.methodLink RX4 3 objectInit, .instanceMethod objectInit, .code objectInit ⟨#[0xb1]⟩ 1 none, .arrayClass .long, .fieldLink RX4 9 "ParametricFlow$Longs" "items" "[J"] ++ wsX40)
def wsX3_init : List Cond := .code yX3_init cX3_init 1 none :: ([.methodLink RX3 3 objectInit, .instanceMethod objectInit, .code objectInit ⟨#[0xb1]⟩ 1 none, .fieldLink RX3 9 "ParametricFlow$Line" "q" "J"] ++ wsX30)
def wsJxa1e45_init_da8c8 : List Cond := .code yJxa1e45_init_da8c8 cJxa1e45_init_da8c8 1 none :: ([.methodLink RJxa1e45 1 objectInit, .instanceMethod objectInit, .code objectInit ⟨#[0xb1]⟩ 1 none])
def wsJxc12de_init_da8c8 : List Cond := .code yJxc12de_init_da8c8 cJxc12de_init_da8c8 1 none :: ([.fieldLink RJxc12de 7 "java/util/AbstractList" "modCount" "I", .methodLink RJxc12de 1 yJxa1e45_init_da8c8, .instanceMethod yJxa1e45_init_da8c8, .initialized RJxa1e45, .code yJxa1e45_init_da8c8 cJxa1e45_init_da8c8 1 none, .methodLink RJxa1e45 1 objectInit, .instanceMethod objectInit, .code objectInit ⟨#[0xb1]⟩ 1 none] ++ wsJx4a65c0)
def wsJx4a65c_init_da8c8 : List Cond := .code yJx4a65c_init_da8c8 cJx4a65c_init_da8c8 1 none :: ([.fieldLink RJx4a65c 39 "java/util/ArrayList" "DEFAULTCAPACITY_EMPTY_ELEMENTDATA" "[Ljava/lang/Object;", .fieldLink RJx4a65c 9 "java/util/ArrayList" "elementData" "[Ljava/lang/Object;", .methodLink RJx4a65c 1 yJxc12de_init_da8c8, .instanceMethod yJxc12de_init_da8c8, .initialized RJxc12de, .code yJxc12de_init_da8c8 cJxc12de_init_da8c8 1 none, .fieldLink RJxc12de 7 "java/util/AbstractList" "modCount" "I", .methodLink RJxc12de 1 yJxa1e45_init_da8c8, .instanceMethod yJxa1e45_init_da8c8, .initialized RJxa1e45, .code yJxa1e45_init_da8c8 cJxa1e45_init_da8c8 1 none, .methodLink RJxa1e45 1 objectInit, .instanceMethod objectInit, .code objectInit ⟨#[0xb1]⟩ 1 none] ++ wsJx4a65c0)
def wsX1_init_r1 : List Cond := [Cond.methodLink RX1 3 objectInit, Cond.instanceMethod objectInit, Cond.code objectInit ⟨#[0xb1]⟩ 1 none, Cond.classLink RX1 9 RX4, Cond.instantiable RX4 2, Cond.initialized RX4, Cond.fieldLink RX1 12 "ParametricFlow$Curve" "numerators" "LParametricFlow$Longs;", Cond.fieldLink RX1 18 "ParametricFlow$Curve" "denominators" "LParametricFlow$Longs;", Cond.fieldLink RX1 21 "ParametricFlow$Curve" "slopes" "LParametricFlow$Longs;", Cond.classLink RX1 24 RX3, Cond.instantiable RX3 4, Cond.initialized RX3, Cond.fieldLink RX1 27 "ParametricFlow$Curve" "left" "LParametricFlow$Line;", Cond.classLink RX1 31 RJx4a65c, Cond.instantiable RJx4a65c 3, Cond.initialized RJx4a65c, Cond.fieldLink RX1 34 "ParametricFlow$Curve" "rights" "Ljava/util/ArrayList;", Cond.instanceMethod yX4_init, Cond.code yX4_init cX4_init 1 none, Cond.methodLink RX4 3 objectInit, Cond.arrayClass .long, Cond.fieldLink RX4 9 "ParametricFlow$Longs" "items" "[J", Cond.instanceMethod yX3_init, Cond.code yX3_init cX3_init 1 none]
def wsX1_init_r2 : List Cond := [Cond.methodLink RX3 3 objectInit, Cond.fieldLink RX3 9 "ParametricFlow$Line" "q" "J", Cond.methodLink RX1 33 yJx4a65c_init_da8c8, Cond.instanceMethod yJx4a65c_init_da8c8, Cond.code yJx4a65c_init_da8c8 cJx4a65c_init_da8c8 1 none, Cond.fieldLink RJx4a65c 39 "java/util/ArrayList" "DEFAULTCAPACITY_EMPTY_ELEMENTDATA" "[Ljava/lang/Object;", Cond.fieldLink RJx4a65c 9 "java/util/ArrayList" "elementData" "[Ljava/lang/Object;", Cond.methodLink RJx4a65c 1 yJxc12de_init_da8c8, Cond.instanceMethod yJxc12de_init_da8c8, Cond.initialized RJxc12de, Cond.code yJxc12de_init_da8c8 cJxc12de_init_da8c8 1 none, Cond.fieldLink RJxc12de 7 "java/util/AbstractList" "modCount" "I", Cond.methodLink RJxc12de 1 yJxa1e45_init_da8c8, Cond.instanceMethod yJxa1e45_init_da8c8, Cond.initialized RJxa1e45, Cond.code yJxa1e45_init_da8c8 cJxa1e45_init_da8c8 1 none, Cond.methodLink RJxa1e45 1 objectInit]
def wsX1_init : List Cond := .code yX1_init cX1_init 1 none :: ((wsX1_init_r1 ++ wsX1_init_r2) ++ wsX40 ++ wsX10 ++ wsX30 ++ wsJx4a65c0)
def wsX5_isBalanced : List Cond := .code yX5_isBalanced cX5_isBalanced 8 (some .boolean) :: ([.fieldLink RX5 9 "ParametricFlow$Network" "nodes" "I", .methodLink RX5 49 yX5_scaledSupply, .instanceMethod yX5_scaledSupply, .selects RX5 yX5_scaledSupply yX5_scaledSupply, .initialized RX5, .code yX5_scaledSupply cX5_scaledSupply 6 (some .long), .fieldLink RX5 15 "ParametricFlow$Network" "mode" "I", .fieldLink RX5 18 "ParametricFlow$Network" "supply" "[I", .fieldLink RX5 22 "ParametricFlow$Network" "supplySlope" "[I"] ++ wsX50)
def wsX4_clear : List Cond := .code yX4_clear cX4_clear 1 none :: ([.fieldLink RX4 15 "ParametricFlow$Longs" "size" "I"] ++ wsX40)
def wsX8_plant : List Cond := .code yX8_plant cX8_plant 3 none :: ([.fieldLink RX8 34 "ParametricFlow$Arcs" "nodes" "I", .fieldLink RX8 40 "ParametricFlow$Tree" "root" "I", .fieldLink RX8 9 "ParametricFlow$Tree" "parent" "[I", .fieldLink RX8 18 "ParametricFlow$Tree" "depth" "[I", .fieldLink RX8 21 "ParametricFlow$Tree" "potential" "[J", .fieldLink RX8 15 "ParametricFlow$Tree" "link" "[I"] ++ wsX00 ++ wsX80)
def wsX8_measure : List Cond := .code yX8_measure cX8_measure 8 none :: ([.fieldLink RX8 40 "ParametricFlow$Tree" "root" "I", .fieldLink RX8 15 "ParametricFlow$Tree" "link" "[I", .fieldLink RX8 43 "ParametricFlow$Arcs" "from" "[I", .fieldLink RX8 46 "ParametricFlow$Arcs" "cost" "[J", .fieldLink RX8 9 "ParametricFlow$Tree" "parent" "[I", .fieldLink RX8 18 "ParametricFlow$Tree" "depth" "[I", .fieldLink RX8 21 "ParametricFlow$Tree" "potential" "[J"] ++ wsX80 ++ wsX00)
def wsX7_entering : List Cond := .code yX7_entering cX7_entering 7 (some .int) :: ([.fieldLink RX7 18 "ParametricFlow$Simplex" "arcs" "LParametricFlow$Arcs;", .fieldLink RX7 120 "ParametricFlow$Arcs" "count" "I", .fieldLink RX7 123 "ParametricFlow$Arcs" "place" "[I", .methodLink RX7 126 yX7_reduced, .instanceMethod yX7_reduced, .selects RX7 yX7_reduced yX7_reduced, .initialized RX7, .code yX7_reduced cX7_reduced 2 (some .long), .fieldLink RX7 106 "ParametricFlow$Arcs" "cost" "[J", .fieldLink RX7 25 "ParametricFlow$Simplex" "tree" "LParametricFlow$Tree;", .fieldLink RX7 110 "ParametricFlow$Tree" "potential" "[J", .fieldLink RX7 113 "ParametricFlow$Arcs" "from" "[I", .fieldLink RX7 117 "ParametricFlow$Arcs" "to" "[I"] ++ wsX70 ++ wsX00 ++ wsX80)
def wsX8_leadsUp : List Cond := .code yX8_leadsUp cX8_leadsUp 3 (some .boolean) :: ([.fieldLink RX8 43 "ParametricFlow$Arcs" "from" "[I", .fieldLink RX8 15 "ParametricFlow$Tree" "link" "[I"] ++ wsX00 ++ wsX80)
def wsX4_add : List Cond := .code yX4_add cX4_add 3 none :: ([.fieldLink RX4 15 "ParametricFlow$Longs" "size" "I", .fieldLink RX4 9 "ParametricFlow$Longs" "items" "[J", .constant RX4 19 (1000000), .methodLink RX4 20 yJ7_copyOf_c38d5, .static yJ7_copyOf_c38d5, .initialized RJ7, .code yJ7_copyOf_c38d5 cJ7_copyOf_c38d5 3 (some (.array .long)), .methodLink RJ7 319 ⟨"[J", "clone", "()Ljava/lang/Object;"⟩, .sameMethod "[J" "java/lang/Object" "clone" "()Ljava/lang/Object;", .native ⟨"java/lang/Object", "clone", "()Ljava/lang/Object;"⟩, .instanceMethod ⟨"java/lang/Object", "clone", "()Ljava/lang/Object;"⟩, .selects "[J" ⟨"[J", "clone", "()Ljava/lang/Object;"⟩ ⟨"java/lang/Object", "clone", "()Ljava/lang/Object;"⟩, .classLink RJ7 320 "[J", .arrayClass .long, .methodLink RJ7 304 Lib.Math.min.name, .static Lib.Math.min.name, .initialized "java/lang/Math", .code Lib.Math.min.name Lib.Math.min.code 2 (some .int), .methodLink RJ7 150 arraycopyName, .native arraycopyName, .static arraycopyName, .initialized "java/lang/System"] ++ wsX40)
def wsX7_run_r1 : List Cond := [Cond.fieldLink RX7 53 "ParametricFlow$Network" "mode" "I", Cond.fieldLink RX7 59 "ParametricFlow$Simplex" "mode" "I", Cond.fieldLink RX7 60 "ParametricFlow$Simplex" "p" "J", Cond.fieldLink RX7 9 "ParametricFlow$Simplex" "q" "J", Cond.fieldLink RX7 39 "ParametricFlow$Simplex" "entered" "LParametricFlow$Longs;", Cond.fieldLink RX7 43 "ParametricFlow$Simplex" "left" "LParametricFlow$Longs;", Cond.fieldLink RX7 18 "ParametricFlow$Simplex" "arcs" "LParametricFlow$Arcs;", Cond.fieldLink RX7 25 "ParametricFlow$Simplex" "tree" "LParametricFlow$Tree;", Cond.constant RX7 78 (1000000), Cond.fieldLink RX7 32 "ParametricFlow$Simplex" "cycle" "LParametricFlow$Cycle;", Cond.methodLink RX7 63 yX4_clear, Cond.instanceMethod yX4_clear, Cond.selects RX4 yX4_clear yX4_clear, Cond.initialized RX4, Cond.code yX4_clear cX4_clear 1 none, Cond.fieldLink RX4 15 "ParametricFlow$Longs" "size" "I", Cond.methodLink RX7 66 yX5_isBalanced, Cond.instanceMethod yX5_isBalanced, Cond.selects RX5 yX5_isBalanced yX5_isBalanced, Cond.initialized RX5, Cond.code yX5_isBalanced cX5_isBalanced 8 (some .boolean), Cond.fieldLink RX5 9 "ParametricFlow$Network" "nodes" "I", Cond.methodLink RX5 49 yX5_scaledSupply, Cond.instanceMethod yX5_scaledSupply]
def wsX7_run_r2 : List Cond := [Cond.selects RX5 yX5_scaledSupply yX5_scaledSupply, Cond.code yX5_scaledSupply cX5_scaledSupply 6 (some .long), Cond.fieldLink RX5 15 "ParametricFlow$Network" "mode" "I", Cond.fieldLink RX5 18 "ParametricFlow$Network" "supply" "[I", Cond.fieldLink RX5 22 "ParametricFlow$Network" "supplySlope" "[I", Cond.methodLink RX7 70 yX0_load, Cond.instanceMethod yX0_load, Cond.selects RX0 yX0_load yX0_load, Cond.initialized RX0, Cond.code yX0_load cX0_load 9 none, Cond.fieldLink RX0 31 "ParametricFlow$Network" "nodes" "I", Cond.fieldLink RX0 37 "ParametricFlow$Arcs" "nodes" "I", Cond.fieldLink RX0 38 "ParametricFlow$Network" "arcs" "I", Cond.fieldLink RX0 41 "ParametricFlow$Arcs" "count" "I", Cond.fieldLink RX0 9 "ParametricFlow$Arcs" "from" "[I", Cond.fieldLink RX0 44 "ParametricFlow$Network" "from" "[I", Cond.fieldLink RX0 15 "ParametricFlow$Arcs" "to" "[I", Cond.fieldLink RX0 45 "ParametricFlow$Network" "to" "[I", Cond.fieldLink RX0 18 "ParametricFlow$Arcs" "capacity" "[J", Cond.fieldLink RX0 22 "ParametricFlow$Arcs" "cost" "[J", Cond.fieldLink RX0 25 "ParametricFlow$Arcs" "flow" "[J", Cond.fieldLink RX0 28 "ParametricFlow$Arcs" "place" "[I", Cond.methodLink RX0 54 Lib.MathLoose.abs_long.x, Cond.static Lib.MathLoose.abs_long.x]
def wsX7_run_r3 : List Cond := [Cond.initialized "java/lang/Math", Cond.code Lib.MathLoose.abs_long.x Lib.MathLoose.abs_long.code 2 (some .long), Cond.methodLink RX0 60 Lib.MathLoose.max_long.x, Cond.static Lib.MathLoose.max_long.x, Cond.code Lib.MathLoose.max_long.x Lib.MathLoose.max_long.code 4 (some .long), Cond.methodLink RX0 46 yX5_scaledCapacity, Cond.instanceMethod yX5_scaledCapacity, Cond.selects RX5 yX5_scaledCapacity yX5_scaledCapacity, Cond.code yX5_scaledCapacity cX5_scaledCapacity 4 (some .long), Cond.fieldLink RX5 31 "ParametricFlow$Network" "capacity" "[I", Cond.methodLink RX0 50 yX5_scaledCost, Cond.instanceMethod yX5_scaledCost, Cond.selects RX5 yX5_scaledCost yX5_scaledCost, Cond.code yX5_scaledCost cX5_scaledCost 6 (some .long), Cond.fieldLink RX5 34 "ParametricFlow$Network" "cost" "[I", Cond.fieldLink RX5 37 "ParametricFlow$Network" "slope" "[I", Cond.methodLink RX0 64 yX5_scaledSupply, Cond.methodLink RX0 67 yX0_loadArtificial, Cond.instanceMethod yX0_loadArtificial, Cond.selects RX0 yX0_loadArtificial yX0_loadArtificial, Cond.code yX0_loadArtificial cX0_loadArtificial 7 none, Cond.constantLong RX0 71 (1152921504606846976), Cond.methodLink RX7 74 yX8_plant, Cond.instanceMethod yX8_plant]
def wsX7_run_r4 : List Cond := [Cond.selects RX8 yX8_plant yX8_plant, Cond.initialized RX8, Cond.code yX8_plant cX8_plant 3 none, Cond.fieldLink RX8 34 "ParametricFlow$Arcs" "nodes" "I", Cond.fieldLink RX8 40 "ParametricFlow$Tree" "root" "I", Cond.fieldLink RX8 9 "ParametricFlow$Tree" "parent" "[I", Cond.fieldLink RX8 18 "ParametricFlow$Tree" "depth" "[I", Cond.fieldLink RX8 21 "ParametricFlow$Tree" "potential" "[J", Cond.fieldLink RX8 15 "ParametricFlow$Tree" "link" "[I", Cond.methodLink RX7 79 yX8_measure, Cond.instanceMethod yX8_measure, Cond.selects RX8 yX8_measure yX8_measure, Cond.code yX8_measure cX8_measure 8 none, Cond.fieldLink RX8 43 "ParametricFlow$Arcs" "from" "[I", Cond.fieldLink RX8 46 "ParametricFlow$Arcs" "cost" "[J", Cond.methodLink RX7 82 yX7_entering, Cond.instanceMethod yX7_entering, Cond.selects RX7 yX7_entering yX7_entering, Cond.initialized RX7, Cond.code yX7_entering cX7_entering 7 (some .int), Cond.fieldLink RX7 120 "ParametricFlow$Arcs" "count" "I", Cond.fieldLink RX7 123 "ParametricFlow$Arcs" "place" "[I", Cond.methodLink RX7 126 yX7_reduced, Cond.instanceMethod yX7_reduced]
def wsX7_run_r5 : List Cond := [Cond.selects RX7 yX7_reduced yX7_reduced, Cond.code yX7_reduced cX7_reduced 2 (some .long), Cond.fieldLink RX7 106 "ParametricFlow$Arcs" "cost" "[J", Cond.fieldLink RX7 110 "ParametricFlow$Tree" "potential" "[J", Cond.fieldLink RX7 113 "ParametricFlow$Arcs" "from" "[I", Cond.fieldLink RX7 117 "ParametricFlow$Arcs" "to" "[I", Cond.methodLink RX7 86 yX2_close, Cond.instanceMethod yX2_close, Cond.selects RX2 yX2_close yX2_close, Cond.initialized RX2, Cond.code yX2_close cX2_close 8 none, Cond.fieldLink RX2 9 "ParametricFlow$Cycle" "row" "I", Cond.fieldLink RX2 15 "ParametricFlow$Arcs" "place" "[I", Cond.fieldLink RX2 21 "ParametricFlow$Cycle" "along" "Z", Cond.fieldLink RX2 25 "ParametricFlow$Arcs" "from" "[I", Cond.fieldLink RX2 28 "ParametricFlow$Arcs" "to" "[I", Cond.fieldLink RX2 31 "ParametricFlow$Cycle" "tail" "I", Cond.fieldLink RX2 34 "ParametricFlow$Cycle" "head" "I", Cond.fieldLink RX2 43 "ParametricFlow$Cycle" "apex" "I", Cond.fieldLink RX2 49 "ParametricFlow$Cycle" "least" "J", Cond.fieldLink RX2 53 "ParametricFlow$Cycle" "cut" "I", Cond.fieldLink RX2 56 "ParametricFlow$Cycle" "cutAhead" "Z", Cond.fieldLink RX2 59 "ParametricFlow$Tree" "link" "[I", Cond.fieldLink RX2 66 "ParametricFlow$Tree" "parent" "[I"]
def wsX7_run_r6 : List Cond := [Cond.methodLink RX2 37 yX8_apex, Cond.instanceMethod yX8_apex, Cond.selects RX8 yX8_apex yX8_apex, Cond.code yX8_apex cX8_apex 6 (some .int), Cond.methodLink RX2 45 yX0_room, Cond.instanceMethod yX0_room, Cond.selects RX0 yX0_room yX0_room, Cond.code yX0_room cX0_room 3 (some .long), Cond.methodLink RX2 62 yX8_leadsUp, Cond.instanceMethod yX8_leadsUp, Cond.selects RX8 yX8_leadsUp yX8_leadsUp, Cond.code yX8_leadsUp cX8_leadsUp 3 (some .boolean), Cond.methodLink RX7 90 yX2_push, Cond.instanceMethod yX2_push, Cond.selects RX2 yX2_push yX2_push, Cond.code yX2_push cX2_push 5 none, Cond.methodLink RX2 69 yX0_push, Cond.instanceMethod yX0_push, Cond.selects RX0 yX0_push yX0_push, Cond.code yX0_push cX0_push 5 none, Cond.methodLink RX7 94 yX4_add, Cond.instanceMethod yX4_add, Cond.selects RX4 yX4_add yX4_add, Cond.code yX4_add cX4_add 3 none]
def wsX7_run_r7 : List Cond := [Cond.fieldLink RX4 9 "ParametricFlow$Longs" "items" "[J", Cond.constant RX4 19 (1000000), Cond.methodLink RX4 20 yJ7_copyOf_c38d5, Cond.static yJ7_copyOf_c38d5, Cond.initialized RJ7, Cond.code yJ7_copyOf_c38d5 cJ7_copyOf_c38d5 3 (some (.array .long)), Cond.methodLink RJ7 319 ⟨"[J", "clone", "()Ljava/lang/Object;"⟩, Cond.sameMethod "[J" "java/lang/Object" "clone" "()Ljava/lang/Object;", Cond.native ⟨"java/lang/Object", "clone", "()Ljava/lang/Object;"⟩, Cond.instanceMethod ⟨"java/lang/Object", "clone", "()Ljava/lang/Object;"⟩, Cond.selects "[J" ⟨"[J", "clone", "()Ljava/lang/Object;"⟩ ⟨"java/lang/Object", "clone", "()Ljava/lang/Object;"⟩, Cond.classLink RJ7 320 "[J", Cond.arrayClass .long, Cond.methodLink RJ7 304 Lib.Math.min.name, Cond.static Lib.Math.min.name, Cond.code Lib.Math.min.name Lib.Math.min.code 2 (some .int), Cond.methodLink RJ7 150 arraycopyName, Cond.native arraycopyName, Cond.static arraycopyName, Cond.initialized "java/lang/System", Cond.methodLink RX7 98 yX2_exchange, Cond.instanceMethod yX2_exchange, Cond.selects RX2 yX2_exchange yX2_exchange, Cond.code yX2_exchange cX2_exchange 4 (some .int)]
def wsX7_run_r8 : List Cond := [Cond.methodLink RX2 73 yX0_putAtBound, Cond.instanceMethod yX0_putAtBound, Cond.selects RX0 yX0_putAtBound yX0_putAtBound, Cond.code yX0_putAtBound cX0_putAtBound 2 none, Cond.methodLink RX2 77 yX8_rehang, Cond.instanceMethod yX8_rehang, Cond.selects RX8 yX8_rehang yX8_rehang, Cond.code yX8_rehang cX8_rehang 11 none, Cond.methodLink RX7 102 yX0_hasArtificialFlow, Cond.instanceMethod yX0_hasArtificialFlow, Cond.selects RX0 yX0_hasArtificialFlow yX0_hasArtificialFlow, Cond.code yX0_hasArtificialFlow cX0_hasArtificialFlow 2 (some .boolean)]
def wsX7_run : List Cond := .code yX7_run cX7_run 8 (some .int) :: ((wsX7_run_r1 ++ (wsX7_run_r2 ++ (wsX7_run_r3 ++ (wsX7_run_r4 ++ (wsX7_run_r5 ++ (wsX7_run_r6 ++ (wsX7_run_r7 ++ wsX7_run_r8))))))) ++ wsX50 ++ wsX70 ++ wsX40 ++ wsX00 ++ wsX80 ++ wsX20)
def wsX7_rate : List Cond := .code yX7_rate cX7_rate 5 (some .long) :: ([.fieldLink RX7 59 "ParametricFlow$Simplex" "mode" "I", .fieldLink RX7 18 "ParametricFlow$Simplex" "arcs" "LParametricFlow$Arcs;", .fieldLink RX7 120 "ParametricFlow$Arcs" "count" "I", .fieldLink RX7 130 "ParametricFlow$Arcs" "flow" "[J", .fieldLink RX7 133 "ParametricFlow$Network" "slope" "[I", .fieldLink RX7 136 "ParametricFlow$Arcs" "nodes" "I", .fieldLink RX7 139 "ParametricFlow$Network" "supplySlope" "[I", .fieldLink RX7 25 "ParametricFlow$Simplex" "tree" "LParametricFlow$Tree;", .fieldLink RX7 110 "ParametricFlow$Tree" "potential" "[J"] ++ wsX70 ++ wsX00 ++ wsX50 ++ wsX80)
def wsX3_touch_r1 : List Cond := [Cond.fieldLink RX3 15 "ParametricFlow$Line" "p" "J", Cond.fieldLink RX3 9 "ParametricFlow$Line" "q" "J", Cond.fieldLink RX3 28 "ParametricFlow$Line" "slope" "J", Cond.fieldLink RX3 31 "ParametricFlow$Simplex" "arcs" "LParametricFlow$Arcs;", Cond.fieldLink RX3 41 "ParametricFlow$Line" "start" "J", Cond.methodLink RX3 18 yX7_run, Cond.instanceMethod yX7_run, Cond.selects RX7 yX7_run yX7_run, Cond.initialized RX7, Cond.code yX7_run cX7_run 8 (some .int), Cond.fieldLink RX7 53 "ParametricFlow$Network" "mode" "I", Cond.fieldLink RX7 59 "ParametricFlow$Simplex" "mode" "I", Cond.fieldLink RX7 60 "ParametricFlow$Simplex" "p" "J", Cond.fieldLink RX7 9 "ParametricFlow$Simplex" "q" "J", Cond.fieldLink RX7 39 "ParametricFlow$Simplex" "entered" "LParametricFlow$Longs;", Cond.fieldLink RX7 43 "ParametricFlow$Simplex" "left" "LParametricFlow$Longs;", Cond.fieldLink RX7 18 "ParametricFlow$Simplex" "arcs" "LParametricFlow$Arcs;", Cond.fieldLink RX7 25 "ParametricFlow$Simplex" "tree" "LParametricFlow$Tree;", Cond.constant RX7 78 (1000000), Cond.fieldLink RX7 32 "ParametricFlow$Simplex" "cycle" "LParametricFlow$Cycle;", Cond.methodLink RX7 63 yX4_clear, Cond.instanceMethod yX4_clear, Cond.selects RX4 yX4_clear yX4_clear, Cond.initialized RX4]
def wsX3_touch_r2 : List Cond := [Cond.code yX4_clear cX4_clear 1 none, Cond.fieldLink RX4 15 "ParametricFlow$Longs" "size" "I", Cond.methodLink RX7 66 yX5_isBalanced, Cond.instanceMethod yX5_isBalanced, Cond.selects RX5 yX5_isBalanced yX5_isBalanced, Cond.initialized RX5, Cond.code yX5_isBalanced cX5_isBalanced 8 (some .boolean), Cond.fieldLink RX5 9 "ParametricFlow$Network" "nodes" "I", Cond.methodLink RX5 49 yX5_scaledSupply, Cond.instanceMethod yX5_scaledSupply, Cond.selects RX5 yX5_scaledSupply yX5_scaledSupply, Cond.code yX5_scaledSupply cX5_scaledSupply 6 (some .long), Cond.fieldLink RX5 15 "ParametricFlow$Network" "mode" "I", Cond.fieldLink RX5 18 "ParametricFlow$Network" "supply" "[I", Cond.fieldLink RX5 22 "ParametricFlow$Network" "supplySlope" "[I", Cond.methodLink RX7 70 yX0_load, Cond.instanceMethod yX0_load, Cond.selects RX0 yX0_load yX0_load, Cond.initialized RX0, Cond.code yX0_load cX0_load 9 none, Cond.fieldLink RX0 31 "ParametricFlow$Network" "nodes" "I", Cond.fieldLink RX0 37 "ParametricFlow$Arcs" "nodes" "I", Cond.fieldLink RX0 38 "ParametricFlow$Network" "arcs" "I", Cond.fieldLink RX0 41 "ParametricFlow$Arcs" "count" "I"]
def wsX3_touch_r3 : List Cond := [Cond.fieldLink RX0 9 "ParametricFlow$Arcs" "from" "[I", Cond.fieldLink RX0 44 "ParametricFlow$Network" "from" "[I", Cond.fieldLink RX0 15 "ParametricFlow$Arcs" "to" "[I", Cond.fieldLink RX0 45 "ParametricFlow$Network" "to" "[I", Cond.fieldLink RX0 18 "ParametricFlow$Arcs" "capacity" "[J", Cond.fieldLink RX0 22 "ParametricFlow$Arcs" "cost" "[J", Cond.fieldLink RX0 25 "ParametricFlow$Arcs" "flow" "[J", Cond.fieldLink RX0 28 "ParametricFlow$Arcs" "place" "[I", Cond.methodLink RX0 54 Lib.MathLoose.abs_long.x, Cond.static Lib.MathLoose.abs_long.x, Cond.initialized "java/lang/Math", Cond.code Lib.MathLoose.abs_long.x Lib.MathLoose.abs_long.code 2 (some .long), Cond.methodLink RX0 60 Lib.MathLoose.max_long.x, Cond.static Lib.MathLoose.max_long.x, Cond.code Lib.MathLoose.max_long.x Lib.MathLoose.max_long.code 4 (some .long), Cond.methodLink RX0 46 yX5_scaledCapacity, Cond.instanceMethod yX5_scaledCapacity, Cond.selects RX5 yX5_scaledCapacity yX5_scaledCapacity, Cond.code yX5_scaledCapacity cX5_scaledCapacity 4 (some .long), Cond.fieldLink RX5 31 "ParametricFlow$Network" "capacity" "[I", Cond.methodLink RX0 50 yX5_scaledCost, Cond.instanceMethod yX5_scaledCost, Cond.selects RX5 yX5_scaledCost yX5_scaledCost, Cond.code yX5_scaledCost cX5_scaledCost 6 (some .long)]
def wsX3_touch_r4 : List Cond := [Cond.fieldLink RX5 34 "ParametricFlow$Network" "cost" "[I", Cond.fieldLink RX5 37 "ParametricFlow$Network" "slope" "[I", Cond.methodLink RX0 64 yX5_scaledSupply, Cond.methodLink RX0 67 yX0_loadArtificial, Cond.instanceMethod yX0_loadArtificial, Cond.selects RX0 yX0_loadArtificial yX0_loadArtificial, Cond.code yX0_loadArtificial cX0_loadArtificial 7 none, Cond.constantLong RX0 71 (1152921504606846976), Cond.methodLink RX7 74 yX8_plant, Cond.instanceMethod yX8_plant, Cond.selects RX8 yX8_plant yX8_plant, Cond.initialized RX8, Cond.code yX8_plant cX8_plant 3 none, Cond.fieldLink RX8 34 "ParametricFlow$Arcs" "nodes" "I", Cond.fieldLink RX8 40 "ParametricFlow$Tree" "root" "I", Cond.fieldLink RX8 9 "ParametricFlow$Tree" "parent" "[I", Cond.fieldLink RX8 18 "ParametricFlow$Tree" "depth" "[I", Cond.fieldLink RX8 21 "ParametricFlow$Tree" "potential" "[J", Cond.fieldLink RX8 15 "ParametricFlow$Tree" "link" "[I", Cond.methodLink RX7 79 yX8_measure, Cond.instanceMethod yX8_measure, Cond.selects RX8 yX8_measure yX8_measure, Cond.code yX8_measure cX8_measure 8 none, Cond.fieldLink RX8 43 "ParametricFlow$Arcs" "from" "[I"]
def wsX3_touch_r5 : List Cond := [Cond.fieldLink RX8 46 "ParametricFlow$Arcs" "cost" "[J", Cond.methodLink RX7 82 yX7_entering, Cond.instanceMethod yX7_entering, Cond.selects RX7 yX7_entering yX7_entering, Cond.code yX7_entering cX7_entering 7 (some .int), Cond.fieldLink RX7 120 "ParametricFlow$Arcs" "count" "I", Cond.fieldLink RX7 123 "ParametricFlow$Arcs" "place" "[I", Cond.methodLink RX7 126 yX7_reduced, Cond.instanceMethod yX7_reduced, Cond.selects RX7 yX7_reduced yX7_reduced, Cond.code yX7_reduced cX7_reduced 2 (some .long), Cond.fieldLink RX7 106 "ParametricFlow$Arcs" "cost" "[J", Cond.fieldLink RX7 110 "ParametricFlow$Tree" "potential" "[J", Cond.fieldLink RX7 113 "ParametricFlow$Arcs" "from" "[I", Cond.fieldLink RX7 117 "ParametricFlow$Arcs" "to" "[I", Cond.methodLink RX7 86 yX2_close, Cond.instanceMethod yX2_close, Cond.selects RX2 yX2_close yX2_close, Cond.initialized RX2, Cond.code yX2_close cX2_close 8 none, Cond.fieldLink RX2 9 "ParametricFlow$Cycle" "row" "I", Cond.fieldLink RX2 15 "ParametricFlow$Arcs" "place" "[I", Cond.fieldLink RX2 21 "ParametricFlow$Cycle" "along" "Z", Cond.fieldLink RX2 25 "ParametricFlow$Arcs" "from" "[I"]
def wsX3_touch_r6 : List Cond := [Cond.fieldLink RX2 28 "ParametricFlow$Arcs" "to" "[I", Cond.fieldLink RX2 31 "ParametricFlow$Cycle" "tail" "I", Cond.fieldLink RX2 34 "ParametricFlow$Cycle" "head" "I", Cond.fieldLink RX2 43 "ParametricFlow$Cycle" "apex" "I", Cond.fieldLink RX2 49 "ParametricFlow$Cycle" "least" "J", Cond.fieldLink RX2 53 "ParametricFlow$Cycle" "cut" "I", Cond.fieldLink RX2 56 "ParametricFlow$Cycle" "cutAhead" "Z", Cond.fieldLink RX2 59 "ParametricFlow$Tree" "link" "[I", Cond.fieldLink RX2 66 "ParametricFlow$Tree" "parent" "[I", Cond.methodLink RX2 37 yX8_apex, Cond.instanceMethod yX8_apex, Cond.selects RX8 yX8_apex yX8_apex, Cond.code yX8_apex cX8_apex 6 (some .int), Cond.methodLink RX2 45 yX0_room, Cond.instanceMethod yX0_room, Cond.selects RX0 yX0_room yX0_room, Cond.code yX0_room cX0_room 3 (some .long), Cond.methodLink RX2 62 yX8_leadsUp, Cond.instanceMethod yX8_leadsUp, Cond.selects RX8 yX8_leadsUp yX8_leadsUp, Cond.code yX8_leadsUp cX8_leadsUp 3 (some .boolean), Cond.methodLink RX7 90 yX2_push, Cond.instanceMethod yX2_push, Cond.selects RX2 yX2_push yX2_push]
def wsX3_touch_r7 : List Cond := [Cond.code yX2_push cX2_push 5 none, Cond.methodLink RX2 69 yX0_push, Cond.instanceMethod yX0_push, Cond.selects RX0 yX0_push yX0_push, Cond.code yX0_push cX0_push 5 none, Cond.methodLink RX7 94 yX4_add, Cond.instanceMethod yX4_add, Cond.selects RX4 yX4_add yX4_add, Cond.code yX4_add cX4_add 3 none, Cond.fieldLink RX4 9 "ParametricFlow$Longs" "items" "[J", Cond.constant RX4 19 (1000000), Cond.methodLink RX4 20 yJ7_copyOf_c38d5, Cond.static yJ7_copyOf_c38d5, Cond.initialized RJ7, Cond.code yJ7_copyOf_c38d5 cJ7_copyOf_c38d5 3 (some (.array .long)), Cond.methodLink RJ7 319 ⟨"[J", "clone", "()Ljava/lang/Object;"⟩, Cond.sameMethod "[J" "java/lang/Object" "clone" "()Ljava/lang/Object;", Cond.native ⟨"java/lang/Object", "clone", "()Ljava/lang/Object;"⟩, Cond.instanceMethod ⟨"java/lang/Object", "clone", "()Ljava/lang/Object;"⟩, Cond.selects "[J" ⟨"[J", "clone", "()Ljava/lang/Object;"⟩ ⟨"java/lang/Object", "clone", "()Ljava/lang/Object;"⟩, Cond.classLink RJ7 320 "[J", Cond.arrayClass .long, Cond.methodLink RJ7 304 Lib.Math.min.name, Cond.static Lib.Math.min.name]
def wsX3_touch_r8 : List Cond := [Cond.code Lib.Math.min.name Lib.Math.min.code 2 (some .int), Cond.methodLink RJ7 150 arraycopyName, Cond.native arraycopyName, Cond.static arraycopyName, Cond.initialized "java/lang/System", Cond.methodLink RX7 98 yX2_exchange, Cond.instanceMethod yX2_exchange, Cond.selects RX2 yX2_exchange yX2_exchange, Cond.code yX2_exchange cX2_exchange 4 (some .int), Cond.methodLink RX2 73 yX0_putAtBound, Cond.instanceMethod yX0_putAtBound, Cond.selects RX0 yX0_putAtBound yX0_putAtBound, Cond.code yX0_putAtBound cX0_putAtBound 2 none, Cond.methodLink RX2 77 yX8_rehang, Cond.instanceMethod yX8_rehang, Cond.selects RX8 yX8_rehang yX8_rehang, Cond.code yX8_rehang cX8_rehang 11 none, Cond.methodLink RX7 102 yX0_hasArtificialFlow, Cond.instanceMethod yX0_hasArtificialFlow, Cond.selects RX0 yX0_hasArtificialFlow yX0_hasArtificialFlow, Cond.code yX0_hasArtificialFlow cX0_hasArtificialFlow 2 (some .boolean), Cond.methodLink RX3 24 yX7_rate, Cond.instanceMethod yX7_rate, Cond.selects RX7 yX7_rate yX7_rate]
def wsX3_touch_r9 : List Cond := [Cond.code yX7_rate cX7_rate 5 (some .long), Cond.fieldLink RX7 130 "ParametricFlow$Arcs" "flow" "[J", Cond.fieldLink RX7 133 "ParametricFlow$Network" "slope" "[I", Cond.fieldLink RX7 136 "ParametricFlow$Arcs" "nodes" "I", Cond.fieldLink RX7 139 "ParametricFlow$Network" "supplySlope" "[I", Cond.methodLink RX3 35 yX0_totalCost, Cond.instanceMethod yX0_totalCost, Cond.selects RX0 yX0_totalCost yX0_totalCost, Cond.code yX0_totalCost cX0_totalCost 4 (some .long)]
def wsX3_touch : List Cond := .code yX3_touch cX3_touch 7 (some .boolean) :: ((wsX3_touch_r1 ++ (wsX3_touch_r2 ++ (wsX3_touch_r3 ++ (wsX3_touch_r4 ++ (wsX3_touch_r5 ++ (wsX3_touch_r6 ++ (wsX3_touch_r7 ++ (wsX3_touch_r8 ++ wsX3_touch_r9)))))))) ++ wsX30 ++ wsX70 ++ wsX50 ++ wsX40 ++ wsX00 ++ wsX80 ++ wsX20)
def wsJx4a65c_size_8abf5 : List Cond := .code yJx4a65c_size_8abf5 cJx4a65c_size_8abf5 1 (some .int) :: ([.fieldLink RJx4a65c 48 "java/util/ArrayList" "size" "I"] ++ wsJx4a65c0)
def wsJx4a65c_grow_92f84_r1 : List Cond := [Cond.fieldLink RJx4a65c 9 "java/util/ArrayList" "elementData" "[Ljava/lang/Object;", Cond.fieldLink RJx4a65c 39 "java/util/ArrayList" "DEFAULTCAPACITY_EMPTY_ELEMENTDATA" "[Ljava/lang/Object;", Cond.methodLink RJx4a65c 79 Lib.Math.max.name, Cond.static Lib.Math.max.name, Cond.initialized "java/lang/Math", Cond.code Lib.Math.max.name Lib.Math.max.code 2 (some .int), Cond.classLink RJx4a65c 7 "java/lang/Object", Cond.methodLink RJx4a65c 73 yJ8_newLength_cabcc, Cond.static yJ8_newLength_cabcc, Cond.initialized RJ8, Cond.code yJ8_newLength_cabcc cJ8_newLength_cabcc 4 (some .int), Cond.methodLink RJ8 194 Lib.Math.max.name, Cond.constant RJ8 200 (2147483639), Cond.methodLink RJ8 201 yJ8_hugeLength_7cf53, Cond.static yJ8_hugeLength_7cf53, Cond.code yJ8_hugeLength_7cf53 cJ8_hugeLength_7cf53 3 (some .int), Cond.methodLink RJx4a65c 66 yJ7_copyOf_1904c, Cond.static yJ7_copyOf_1904c, Cond.initialized RJ7, Cond.code yJ7_copyOf_1904c cJ7_copyOf_1904c 2 (some (.array (.object "java/lang/Object"))), Cond.methodLink RJ7 86 ⟨"java/lang/Object", "getClass", "()Ljava/lang/Class;"⟩, Cond.selects "[Ljava/lang/Object;" ⟨"java/lang/Object", "getClass", "()Ljava/lang/Class;"⟩ ⟨"java/lang/Object", "getClass", "()Ljava/lang/Class;"⟩, Cond.instanceMethod ⟨"java/lang/Object", "getClass", "()Ljava/lang/Class;"⟩, Cond.native ⟨"java/lang/Object", "getClass", "()Ljava/lang/Class;"⟩]
def wsJx4a65c_grow_92f84_r2 : List Cond := [Cond.methodLink RJ7 300 yJ7_copyOf_6403c, Cond.static yJ7_copyOf_6403c, Cond.code yJ7_copyOf_6403c cJ7_copyOf_6403c 4 (some (.array (.object "java/lang/Object"))), Cond.classLink RJ7 110 "[Ljava/lang/Object;", Cond.classLink RJ7 2 "java/lang/Object", Cond.methodLink RJ7 304 Lib.Math.min.name, Cond.static Lib.Math.min.name, Cond.code Lib.Math.min.name Lib.Math.min.code 2 (some .int), Cond.methodLink RJ7 150 arraycopyName, Cond.native arraycopyName, Cond.static arraycopyName, Cond.initialized "java/lang/System"]
def wsJx4a65c_grow_92f84 : List Cond := .code yJx4a65c_grow_92f84 cJx4a65c_grow_92f84 4 (some (.array (.object "java/lang/Object"))) :: ((wsJx4a65c_grow_92f84_r1 ++ wsJx4a65c_grow_92f84_r2) ++ wsJx4a65c0)
def wsJx4a65c_grow_d5877_r1 : List Cond := [Cond.fieldLink RJx4a65c 48 "java/util/ArrayList" "size" "I", Cond.methodLink RJx4a65c 69 yJx4a65c_grow_92f84, Cond.instanceMethod yJx4a65c_grow_92f84, Cond.selects RJx4a65c yJx4a65c_grow_92f84 yJx4a65c_grow_92f84, Cond.initialized RJx4a65c, Cond.code yJx4a65c_grow_92f84 cJx4a65c_grow_92f84 4 (some (.array (.object "java/lang/Object"))), Cond.fieldLink RJx4a65c 9 "java/util/ArrayList" "elementData" "[Ljava/lang/Object;", Cond.fieldLink RJx4a65c 39 "java/util/ArrayList" "DEFAULTCAPACITY_EMPTY_ELEMENTDATA" "[Ljava/lang/Object;", Cond.methodLink RJx4a65c 79 Lib.Math.max.name, Cond.static Lib.Math.max.name, Cond.initialized "java/lang/Math", Cond.code Lib.Math.max.name Lib.Math.max.code 2 (some .int), Cond.classLink RJx4a65c 7 "java/lang/Object", Cond.methodLink RJx4a65c 73 yJ8_newLength_cabcc, Cond.static yJ8_newLength_cabcc, Cond.initialized RJ8, Cond.code yJ8_newLength_cabcc cJ8_newLength_cabcc 4 (some .int), Cond.methodLink RJ8 194 Lib.Math.max.name, Cond.constant RJ8 200 (2147483639), Cond.methodLink RJ8 201 yJ8_hugeLength_7cf53, Cond.static yJ8_hugeLength_7cf53, Cond.code yJ8_hugeLength_7cf53 cJ8_hugeLength_7cf53 3 (some .int), Cond.methodLink RJx4a65c 66 yJ7_copyOf_1904c, Cond.static yJ7_copyOf_1904c]
def wsJx4a65c_grow_d5877_r2 : List Cond := [Cond.initialized RJ7, Cond.code yJ7_copyOf_1904c cJ7_copyOf_1904c 2 (some (.array (.object "java/lang/Object"))), Cond.methodLink RJ7 86 ⟨"java/lang/Object", "getClass", "()Ljava/lang/Class;"⟩, Cond.selects "[Ljava/lang/Object;" ⟨"java/lang/Object", "getClass", "()Ljava/lang/Class;"⟩ ⟨"java/lang/Object", "getClass", "()Ljava/lang/Class;"⟩, Cond.instanceMethod ⟨"java/lang/Object", "getClass", "()Ljava/lang/Class;"⟩, Cond.native ⟨"java/lang/Object", "getClass", "()Ljava/lang/Class;"⟩, Cond.methodLink RJ7 300 yJ7_copyOf_6403c, Cond.static yJ7_copyOf_6403c, Cond.code yJ7_copyOf_6403c cJ7_copyOf_6403c 4 (some (.array (.object "java/lang/Object"))), Cond.classLink RJ7 110 "[Ljava/lang/Object;", Cond.classLink RJ7 2 "java/lang/Object", Cond.methodLink RJ7 304 Lib.Math.min.name, Cond.static Lib.Math.min.name, Cond.code Lib.Math.min.name Lib.Math.min.code 2 (some .int), Cond.methodLink RJ7 150 arraycopyName, Cond.native arraycopyName, Cond.static arraycopyName, Cond.initialized "java/lang/System"]
def wsJx4a65c_grow_d5877 : List Cond := .code yJx4a65c_grow_d5877 cJx4a65c_grow_d5877 1 (some (.array (.object "java/lang/Object"))) :: ((wsJx4a65c_grow_d5877_r1 ++ wsJx4a65c_grow_d5877_r2) ++ wsJx4a65c0)
def wsJx4a65c_add_72be8_r1 : List Cond := [Cond.fieldLink RJx4a65c 48 "java/util/ArrayList" "size" "I", Cond.methodLink RJx4a65c 129 yJx4a65c_grow_d5877, Cond.instanceMethod yJx4a65c_grow_d5877, Cond.selects RJx4a65c yJx4a65c_grow_d5877 yJx4a65c_grow_d5877, Cond.initialized RJx4a65c, Cond.code yJx4a65c_grow_d5877 cJx4a65c_grow_d5877 1 (some (.array (.object "java/lang/Object"))), Cond.methodLink RJx4a65c 69 yJx4a65c_grow_92f84, Cond.instanceMethod yJx4a65c_grow_92f84, Cond.selects RJx4a65c yJx4a65c_grow_92f84 yJx4a65c_grow_92f84, Cond.code yJx4a65c_grow_92f84 cJx4a65c_grow_92f84 4 (some (.array (.object "java/lang/Object"))), Cond.fieldLink RJx4a65c 9 "java/util/ArrayList" "elementData" "[Ljava/lang/Object;", Cond.fieldLink RJx4a65c 39 "java/util/ArrayList" "DEFAULTCAPACITY_EMPTY_ELEMENTDATA" "[Ljava/lang/Object;", Cond.methodLink RJx4a65c 79 Lib.Math.max.name, Cond.static Lib.Math.max.name, Cond.initialized "java/lang/Math", Cond.code Lib.Math.max.name Lib.Math.max.code 2 (some .int), Cond.classLink RJx4a65c 7 "java/lang/Object", Cond.methodLink RJx4a65c 73 yJ8_newLength_cabcc, Cond.static yJ8_newLength_cabcc, Cond.initialized RJ8, Cond.code yJ8_newLength_cabcc cJ8_newLength_cabcc 4 (some .int), Cond.methodLink RJ8 194 Lib.Math.max.name, Cond.constant RJ8 200 (2147483639), Cond.methodLink RJ8 201 yJ8_hugeLength_7cf53]
def wsJx4a65c_add_72be8_r2 : List Cond := [Cond.static yJ8_hugeLength_7cf53, Cond.code yJ8_hugeLength_7cf53 cJ8_hugeLength_7cf53 3 (some .int), Cond.methodLink RJx4a65c 66 yJ7_copyOf_1904c, Cond.static yJ7_copyOf_1904c, Cond.initialized RJ7, Cond.code yJ7_copyOf_1904c cJ7_copyOf_1904c 2 (some (.array (.object "java/lang/Object"))), Cond.methodLink RJ7 86 ⟨"java/lang/Object", "getClass", "()Ljava/lang/Class;"⟩, Cond.selects "[Ljava/lang/Object;" ⟨"java/lang/Object", "getClass", "()Ljava/lang/Class;"⟩ ⟨"java/lang/Object", "getClass", "()Ljava/lang/Class;"⟩, Cond.instanceMethod ⟨"java/lang/Object", "getClass", "()Ljava/lang/Class;"⟩, Cond.native ⟨"java/lang/Object", "getClass", "()Ljava/lang/Class;"⟩, Cond.methodLink RJ7 300 yJ7_copyOf_6403c, Cond.static yJ7_copyOf_6403c, Cond.code yJ7_copyOf_6403c cJ7_copyOf_6403c 4 (some (.array (.object "java/lang/Object"))), Cond.classLink RJ7 110 "[Ljava/lang/Object;", Cond.classLink RJ7 2 "java/lang/Object", Cond.methodLink RJ7 304 Lib.Math.min.name, Cond.static Lib.Math.min.name, Cond.code Lib.Math.min.name Lib.Math.min.code 2 (some .int), Cond.methodLink RJ7 150 arraycopyName, Cond.native arraycopyName, Cond.static arraycopyName, Cond.initialized "java/lang/System"]
def wsJx4a65c_add_72be8 : List Cond := .code yJx4a65c_add_72be8 cJx4a65c_add_72be8 4 none :: ((wsJx4a65c_add_72be8_r1 ++ wsJx4a65c_add_72be8_r2) ++ wsJx4a65c0)
def wsJx4a65c_add_9ea2d_r1 : List Cond := [Cond.fieldLink RJx4a65c 63 "java/util/ArrayList" "modCount" "I", Cond.sameField "java/util/ArrayList" "java/util/AbstractList" "modCount" "I", Cond.fieldLink RJx4a65c 9 "java/util/ArrayList" "elementData" "[Ljava/lang/Object;", Cond.fieldLink RJx4a65c 48 "java/util/ArrayList" "size" "I", Cond.methodLink RJx4a65c 131 yJx4a65c_add_72be8, Cond.instanceMethod yJx4a65c_add_72be8, Cond.selects RJx4a65c yJx4a65c_add_72be8 yJx4a65c_add_72be8, Cond.initialized RJx4a65c, Cond.code yJx4a65c_add_72be8 cJx4a65c_add_72be8 4 none, Cond.methodLink RJx4a65c 129 yJx4a65c_grow_d5877, Cond.instanceMethod yJx4a65c_grow_d5877, Cond.selects RJx4a65c yJx4a65c_grow_d5877 yJx4a65c_grow_d5877, Cond.code yJx4a65c_grow_d5877 cJx4a65c_grow_d5877 1 (some (.array (.object "java/lang/Object"))), Cond.methodLink RJx4a65c 69 yJx4a65c_grow_92f84, Cond.instanceMethod yJx4a65c_grow_92f84, Cond.selects RJx4a65c yJx4a65c_grow_92f84 yJx4a65c_grow_92f84, Cond.code yJx4a65c_grow_92f84 cJx4a65c_grow_92f84 4 (some (.array (.object "java/lang/Object"))), Cond.fieldLink RJx4a65c 39 "java/util/ArrayList" "DEFAULTCAPACITY_EMPTY_ELEMENTDATA" "[Ljava/lang/Object;", Cond.methodLink RJx4a65c 79 Lib.Math.max.name, Cond.static Lib.Math.max.name, Cond.initialized "java/lang/Math", Cond.code Lib.Math.max.name Lib.Math.max.code 2 (some .int), Cond.classLink RJx4a65c 7 "java/lang/Object", Cond.methodLink RJx4a65c 73 yJ8_newLength_cabcc]
def wsJx4a65c_add_9ea2d_r2 : List Cond := [Cond.static yJ8_newLength_cabcc, Cond.initialized RJ8, Cond.code yJ8_newLength_cabcc cJ8_newLength_cabcc 4 (some .int), Cond.methodLink RJ8 194 Lib.Math.max.name, Cond.constant RJ8 200 (2147483639), Cond.methodLink RJ8 201 yJ8_hugeLength_7cf53, Cond.static yJ8_hugeLength_7cf53, Cond.code yJ8_hugeLength_7cf53 cJ8_hugeLength_7cf53 3 (some .int), Cond.methodLink RJx4a65c 66 yJ7_copyOf_1904c, Cond.static yJ7_copyOf_1904c, Cond.initialized RJ7, Cond.code yJ7_copyOf_1904c cJ7_copyOf_1904c 2 (some (.array (.object "java/lang/Object"))), Cond.methodLink RJ7 86 ⟨"java/lang/Object", "getClass", "()Ljava/lang/Class;"⟩, Cond.selects "[Ljava/lang/Object;" ⟨"java/lang/Object", "getClass", "()Ljava/lang/Class;"⟩ ⟨"java/lang/Object", "getClass", "()Ljava/lang/Class;"⟩, Cond.instanceMethod ⟨"java/lang/Object", "getClass", "()Ljava/lang/Class;"⟩, Cond.native ⟨"java/lang/Object", "getClass", "()Ljava/lang/Class;"⟩, Cond.methodLink RJ7 300 yJ7_copyOf_6403c, Cond.static yJ7_copyOf_6403c, Cond.code yJ7_copyOf_6403c cJ7_copyOf_6403c 4 (some (.array (.object "java/lang/Object"))), Cond.classLink RJ7 110 "[Ljava/lang/Object;", Cond.classLink RJ7 2 "java/lang/Object", Cond.methodLink RJ7 304 Lib.Math.min.name, Cond.static Lib.Math.min.name, Cond.code Lib.Math.min.name Lib.Math.min.code 2 (some .int)]
def wsJx4a65c_add_9ea2d_r3 : List Cond := [Cond.methodLink RJ7 150 arraycopyName, Cond.native arraycopyName, Cond.static arraycopyName, Cond.initialized "java/lang/System"]
def wsJx4a65c_add_9ea2d : List Cond := .code yJx4a65c_add_9ea2d cJx4a65c_add_9ea2d 2 (some .boolean) :: ((wsJx4a65c_add_9ea2d_r1 ++ (wsJx4a65c_add_9ea2d_r2 ++ wsJx4a65c_add_9ea2d_r3)) ++ wsJx4a65c0)
def wsJ3_checkIndex_8e157 : List Cond := .code yJ3_checkIndex_8e157 cJ3_checkIndex_8e157 3 (some .int) :: ([])
def wsJ15_checkIndex_7cf53 : List Cond := .code yJ15_checkIndex_7cf53 cJ15_checkIndex_7cf53 2 (some .int) :: ([.methodLink RJ15 105 yJ3_checkIndex_8e157, .static yJ3_checkIndex_8e157, .initialized RJ3, .code yJ3_checkIndex_8e157 cJ3_checkIndex_8e157 3 (some .int)])
def wsJx4a65c_elementData_915e3 : List Cond := .code yJx4a65c_elementData_915e3 cJx4a65c_elementData_915e3 2 (some (.object "java/lang/Object")) :: ([.fieldLink RJx4a65c 9 "java/util/ArrayList" "elementData" "[Ljava/lang/Object;"] ++ wsJx4a65c0)
def wsJx4a65c_get_915e3 : List Cond := .code yJx4a65c_get_915e3 cJx4a65c_get_915e3 2 (some (.object "java/lang/Object")) :: ([.fieldLink RJx4a65c 48 "java/util/ArrayList" "size" "I", .methodLink RJx4a65c 118 yJ15_checkIndex_7cf53, .static yJ15_checkIndex_7cf53, .initialized RJ15, .code yJ15_checkIndex_7cf53 cJ15_checkIndex_7cf53 2 (some .int), .methodLink RJ15 105 yJ3_checkIndex_8e157, .static yJ3_checkIndex_8e157, .initialized RJ3, .code yJ3_checkIndex_8e157 cJ3_checkIndex_8e157 3 (some .int), .methodLink RJx4a65c 123 yJx4a65c_elementData_915e3, .instanceMethod yJx4a65c_elementData_915e3, .selects RJx4a65c yJx4a65c_elementData_915e3 yJx4a65c_elementData_915e3, .initialized RJx4a65c, .code yJx4a65c_elementData_915e3 cJx4a65c_elementData_915e3 2 (some (.object "java/lang/Object")), .fieldLink RJx4a65c 9 "java/util/ArrayList" "elementData" "[Ljava/lang/Object;"] ++ wsJx4a65c0)
def wsX1_nextRight_r1 : List Cond := [Cond.fieldLink RX1 56 "ParametricFlow$Curve" "depth" "I", Cond.fieldLink RX1 34 "ParametricFlow$Curve" "rights" "Ljava/util/ArrayList;", Cond.classLink RX1 24 RX3, Cond.instantiable RX3 4, Cond.initialized RX3, Cond.classLink RX1 24 "ParametricFlow$Line", Cond.methodLink RX1 97 yJx4a65c_size_8abf5, Cond.instanceMethod yJx4a65c_size_8abf5, Cond.selects RJx4a65c yJx4a65c_size_8abf5 yJx4a65c_size_8abf5, Cond.initialized RJx4a65c, Cond.code yJx4a65c_size_8abf5 cJx4a65c_size_8abf5 1 (some .int), Cond.fieldLink RJx4a65c 48 "java/util/ArrayList" "size" "I", Cond.instanceMethod yX3_init, Cond.code yX3_init cX3_init 1 none, Cond.methodLink RX3 3 objectInit, Cond.instanceMethod objectInit, Cond.code objectInit ⟨#[0xb1]⟩ 1 none, Cond.fieldLink RX3 9 "ParametricFlow$Line" "q" "J", Cond.methodLink RX1 101 yJx4a65c_add_9ea2d, Cond.instanceMethod yJx4a65c_add_9ea2d, Cond.selects RJx4a65c yJx4a65c_add_9ea2d yJx4a65c_add_9ea2d, Cond.code yJx4a65c_add_9ea2d cJx4a65c_add_9ea2d 2 (some .boolean), Cond.fieldLink RJx4a65c 63 "java/util/ArrayList" "modCount" "I", Cond.sameField "java/util/ArrayList" "java/util/AbstractList" "modCount" "I"]
def wsX1_nextRight_r2 : List Cond := [Cond.fieldLink RJx4a65c 9 "java/util/ArrayList" "elementData" "[Ljava/lang/Object;", Cond.methodLink RJx4a65c 131 yJx4a65c_add_72be8, Cond.instanceMethod yJx4a65c_add_72be8, Cond.selects RJx4a65c yJx4a65c_add_72be8 yJx4a65c_add_72be8, Cond.code yJx4a65c_add_72be8 cJx4a65c_add_72be8 4 none, Cond.methodLink RJx4a65c 129 yJx4a65c_grow_d5877, Cond.instanceMethod yJx4a65c_grow_d5877, Cond.selects RJx4a65c yJx4a65c_grow_d5877 yJx4a65c_grow_d5877, Cond.code yJx4a65c_grow_d5877 cJx4a65c_grow_d5877 1 (some (.array (.object "java/lang/Object"))), Cond.methodLink RJx4a65c 69 yJx4a65c_grow_92f84, Cond.instanceMethod yJx4a65c_grow_92f84, Cond.selects RJx4a65c yJx4a65c_grow_92f84 yJx4a65c_grow_92f84, Cond.code yJx4a65c_grow_92f84 cJx4a65c_grow_92f84 4 (some (.array (.object "java/lang/Object"))), Cond.fieldLink RJx4a65c 39 "java/util/ArrayList" "DEFAULTCAPACITY_EMPTY_ELEMENTDATA" "[Ljava/lang/Object;", Cond.methodLink RJx4a65c 79 Lib.Math.max.name, Cond.static Lib.Math.max.name, Cond.initialized "java/lang/Math", Cond.code Lib.Math.max.name Lib.Math.max.code 2 (some .int), Cond.classLink RJx4a65c 7 "java/lang/Object", Cond.methodLink RJx4a65c 73 yJ8_newLength_cabcc, Cond.static yJ8_newLength_cabcc, Cond.initialized RJ8, Cond.code yJ8_newLength_cabcc cJ8_newLength_cabcc 4 (some .int), Cond.methodLink RJ8 194 Lib.Math.max.name]
def wsX1_nextRight_r3 : List Cond := [Cond.constant RJ8 200 (2147483639), Cond.methodLink RJ8 201 yJ8_hugeLength_7cf53, Cond.static yJ8_hugeLength_7cf53, Cond.code yJ8_hugeLength_7cf53 cJ8_hugeLength_7cf53 3 (some .int), Cond.methodLink RJx4a65c 66 yJ7_copyOf_1904c, Cond.static yJ7_copyOf_1904c, Cond.initialized RJ7, Cond.code yJ7_copyOf_1904c cJ7_copyOf_1904c 2 (some (.array (.object "java/lang/Object"))), Cond.methodLink RJ7 86 ⟨"java/lang/Object", "getClass", "()Ljava/lang/Class;"⟩, Cond.selects "[Ljava/lang/Object;" ⟨"java/lang/Object", "getClass", "()Ljava/lang/Class;"⟩ ⟨"java/lang/Object", "getClass", "()Ljava/lang/Class;"⟩, Cond.instanceMethod ⟨"java/lang/Object", "getClass", "()Ljava/lang/Class;"⟩, Cond.native ⟨"java/lang/Object", "getClass", "()Ljava/lang/Class;"⟩, Cond.methodLink RJ7 300 yJ7_copyOf_6403c, Cond.static yJ7_copyOf_6403c, Cond.code yJ7_copyOf_6403c cJ7_copyOf_6403c 4 (some (.array (.object "java/lang/Object"))), Cond.classLink RJ7 110 "[Ljava/lang/Object;", Cond.classLink RJ7 2 "java/lang/Object", Cond.methodLink RJ7 304 Lib.Math.min.name, Cond.static Lib.Math.min.name, Cond.code Lib.Math.min.name Lib.Math.min.code 2 (some .int), Cond.methodLink RJ7 150 arraycopyName, Cond.native arraycopyName, Cond.static arraycopyName, Cond.initialized "java/lang/System"]
def wsX1_nextRight_r4 : List Cond := [Cond.methodLink RX1 60 yJx4a65c_get_915e3, Cond.instanceMethod yJx4a65c_get_915e3, Cond.selects RJx4a65c yJx4a65c_get_915e3 yJx4a65c_get_915e3, Cond.code yJx4a65c_get_915e3 cJx4a65c_get_915e3 2 (some (.object "java/lang/Object")), Cond.methodLink RJx4a65c 118 yJ15_checkIndex_7cf53, Cond.static yJ15_checkIndex_7cf53, Cond.initialized RJ15, Cond.code yJ15_checkIndex_7cf53 cJ15_checkIndex_7cf53 2 (some .int), Cond.methodLink RJ15 105 yJ3_checkIndex_8e157, Cond.static yJ3_checkIndex_8e157, Cond.initialized RJ3, Cond.code yJ3_checkIndex_8e157 cJ3_checkIndex_8e157 3 (some .int), Cond.methodLink RJx4a65c 123 yJx4a65c_elementData_915e3, Cond.instanceMethod yJx4a65c_elementData_915e3, Cond.selects RJx4a65c yJx4a65c_elementData_915e3 yJx4a65c_elementData_915e3, Cond.code yJx4a65c_elementData_915e3 cJx4a65c_elementData_915e3 2 (some (.object "java/lang/Object"))]
def wsX1_nextRight : List Cond := .code yX1_nextRight cX1_nextRight 1 (some (.object "ParametricFlow$Line")) :: ((wsX1_nextRight_r1 ++ (wsX1_nextRight_r2 ++ (wsX1_nextRight_r3 ++ wsX1_nextRight_r4))) ++ wsX10 ++ wsX30 ++ wsJx4a65c0)
def wsX1_begin_r1 : List Cond := [Cond.fieldLink RX1 42 "ParametricFlow$Curve" "low" "I", Cond.fieldLink RX1 46 "ParametricFlow$Curve" "high" "I", Cond.fieldLink RX1 56 "ParametricFlow$Curve" "depth" "I", Cond.fieldLink RX1 27 "ParametricFlow$Curve" "left" "LParametricFlow$Line;", Cond.fieldLink RX1 12 "ParametricFlow$Curve" "numerators" "LParametricFlow$Longs;", Cond.fieldLink RX1 18 "ParametricFlow$Curve" "denominators" "LParametricFlow$Longs;", Cond.fieldLink RX1 21 "ParametricFlow$Curve" "slopes" "LParametricFlow$Longs;", Cond.fieldLink RX1 89 "ParametricFlow$Line" "slope" "J", Cond.methodLink RX1 72 yX5_isBalanced, Cond.instanceMethod yX5_isBalanced, Cond.selects RX5 yX5_isBalanced yX5_isBalanced, Cond.initialized RX5, Cond.code yX5_isBalanced cX5_isBalanced 8 (some .boolean), Cond.fieldLink RX5 9 "ParametricFlow$Network" "nodes" "I", Cond.methodLink RX5 49 yX5_scaledSupply, Cond.instanceMethod yX5_scaledSupply, Cond.selects RX5 yX5_scaledSupply yX5_scaledSupply, Cond.code yX5_scaledSupply cX5_scaledSupply 6 (some .long), Cond.fieldLink RX5 15 "ParametricFlow$Network" "mode" "I", Cond.fieldLink RX5 18 "ParametricFlow$Network" "supply" "[I", Cond.fieldLink RX5 22 "ParametricFlow$Network" "supplySlope" "[I", Cond.methodLink RX1 78 yX3_touch, Cond.instanceMethod yX3_touch, Cond.selects RX3 yX3_touch yX3_touch]
def wsX1_begin_r2 : List Cond := [Cond.initialized RX3, Cond.code yX3_touch cX3_touch 7 (some .boolean), Cond.fieldLink RX3 15 "ParametricFlow$Line" "p" "J", Cond.fieldLink RX3 9 "ParametricFlow$Line" "q" "J", Cond.fieldLink RX3 28 "ParametricFlow$Line" "slope" "J", Cond.fieldLink RX3 31 "ParametricFlow$Simplex" "arcs" "LParametricFlow$Arcs;", Cond.fieldLink RX3 41 "ParametricFlow$Line" "start" "J", Cond.methodLink RX3 18 yX7_run, Cond.instanceMethod yX7_run, Cond.selects RX7 yX7_run yX7_run, Cond.initialized RX7, Cond.code yX7_run cX7_run 8 (some .int), Cond.fieldLink RX7 53 "ParametricFlow$Network" "mode" "I", Cond.fieldLink RX7 59 "ParametricFlow$Simplex" "mode" "I", Cond.fieldLink RX7 60 "ParametricFlow$Simplex" "p" "J", Cond.fieldLink RX7 9 "ParametricFlow$Simplex" "q" "J", Cond.fieldLink RX7 39 "ParametricFlow$Simplex" "entered" "LParametricFlow$Longs;", Cond.fieldLink RX7 43 "ParametricFlow$Simplex" "left" "LParametricFlow$Longs;", Cond.fieldLink RX7 18 "ParametricFlow$Simplex" "arcs" "LParametricFlow$Arcs;", Cond.fieldLink RX7 25 "ParametricFlow$Simplex" "tree" "LParametricFlow$Tree;", Cond.constant RX7 78 (1000000), Cond.fieldLink RX7 32 "ParametricFlow$Simplex" "cycle" "LParametricFlow$Cycle;", Cond.methodLink RX7 63 yX4_clear, Cond.instanceMethod yX4_clear]
def wsX1_begin_r3 : List Cond := [Cond.selects RX4 yX4_clear yX4_clear, Cond.initialized RX4, Cond.code yX4_clear cX4_clear 1 none, Cond.fieldLink RX4 15 "ParametricFlow$Longs" "size" "I", Cond.methodLink RX7 66 yX5_isBalanced, Cond.methodLink RX7 70 yX0_load, Cond.instanceMethod yX0_load, Cond.selects RX0 yX0_load yX0_load, Cond.initialized RX0, Cond.code yX0_load cX0_load 9 none, Cond.fieldLink RX0 31 "ParametricFlow$Network" "nodes" "I", Cond.fieldLink RX0 37 "ParametricFlow$Arcs" "nodes" "I", Cond.fieldLink RX0 38 "ParametricFlow$Network" "arcs" "I", Cond.fieldLink RX0 41 "ParametricFlow$Arcs" "count" "I", Cond.fieldLink RX0 9 "ParametricFlow$Arcs" "from" "[I", Cond.fieldLink RX0 44 "ParametricFlow$Network" "from" "[I", Cond.fieldLink RX0 15 "ParametricFlow$Arcs" "to" "[I", Cond.fieldLink RX0 45 "ParametricFlow$Network" "to" "[I", Cond.fieldLink RX0 18 "ParametricFlow$Arcs" "capacity" "[J", Cond.fieldLink RX0 22 "ParametricFlow$Arcs" "cost" "[J", Cond.fieldLink RX0 25 "ParametricFlow$Arcs" "flow" "[J", Cond.fieldLink RX0 28 "ParametricFlow$Arcs" "place" "[I", Cond.methodLink RX0 54 Lib.MathLoose.abs_long.x, Cond.static Lib.MathLoose.abs_long.x]
def wsX1_begin_r4 : List Cond := [Cond.initialized "java/lang/Math", Cond.code Lib.MathLoose.abs_long.x Lib.MathLoose.abs_long.code 2 (some .long), Cond.methodLink RX0 60 Lib.MathLoose.max_long.x, Cond.static Lib.MathLoose.max_long.x, Cond.code Lib.MathLoose.max_long.x Lib.MathLoose.max_long.code 4 (some .long), Cond.methodLink RX0 46 yX5_scaledCapacity, Cond.instanceMethod yX5_scaledCapacity, Cond.selects RX5 yX5_scaledCapacity yX5_scaledCapacity, Cond.code yX5_scaledCapacity cX5_scaledCapacity 4 (some .long), Cond.fieldLink RX5 31 "ParametricFlow$Network" "capacity" "[I", Cond.methodLink RX0 50 yX5_scaledCost, Cond.instanceMethod yX5_scaledCost, Cond.selects RX5 yX5_scaledCost yX5_scaledCost, Cond.code yX5_scaledCost cX5_scaledCost 6 (some .long), Cond.fieldLink RX5 34 "ParametricFlow$Network" "cost" "[I", Cond.fieldLink RX5 37 "ParametricFlow$Network" "slope" "[I", Cond.methodLink RX0 64 yX5_scaledSupply, Cond.methodLink RX0 67 yX0_loadArtificial, Cond.instanceMethod yX0_loadArtificial, Cond.selects RX0 yX0_loadArtificial yX0_loadArtificial, Cond.code yX0_loadArtificial cX0_loadArtificial 7 none, Cond.constantLong RX0 71 (1152921504606846976), Cond.methodLink RX7 74 yX8_plant, Cond.instanceMethod yX8_plant]
def wsX1_begin_r5 : List Cond := [Cond.selects RX8 yX8_plant yX8_plant, Cond.initialized RX8, Cond.code yX8_plant cX8_plant 3 none, Cond.fieldLink RX8 34 "ParametricFlow$Arcs" "nodes" "I", Cond.fieldLink RX8 40 "ParametricFlow$Tree" "root" "I", Cond.fieldLink RX8 9 "ParametricFlow$Tree" "parent" "[I", Cond.fieldLink RX8 18 "ParametricFlow$Tree" "depth" "[I", Cond.fieldLink RX8 21 "ParametricFlow$Tree" "potential" "[J", Cond.fieldLink RX8 15 "ParametricFlow$Tree" "link" "[I", Cond.methodLink RX7 79 yX8_measure, Cond.instanceMethod yX8_measure, Cond.selects RX8 yX8_measure yX8_measure, Cond.code yX8_measure cX8_measure 8 none, Cond.fieldLink RX8 43 "ParametricFlow$Arcs" "from" "[I", Cond.fieldLink RX8 46 "ParametricFlow$Arcs" "cost" "[J", Cond.methodLink RX7 82 yX7_entering, Cond.instanceMethod yX7_entering, Cond.selects RX7 yX7_entering yX7_entering, Cond.code yX7_entering cX7_entering 7 (some .int), Cond.fieldLink RX7 120 "ParametricFlow$Arcs" "count" "I", Cond.fieldLink RX7 123 "ParametricFlow$Arcs" "place" "[I", Cond.methodLink RX7 126 yX7_reduced, Cond.instanceMethod yX7_reduced, Cond.selects RX7 yX7_reduced yX7_reduced]
def wsX1_begin_r6 : List Cond := [Cond.code yX7_reduced cX7_reduced 2 (some .long), Cond.fieldLink RX7 106 "ParametricFlow$Arcs" "cost" "[J", Cond.fieldLink RX7 110 "ParametricFlow$Tree" "potential" "[J", Cond.fieldLink RX7 113 "ParametricFlow$Arcs" "from" "[I", Cond.fieldLink RX7 117 "ParametricFlow$Arcs" "to" "[I", Cond.methodLink RX7 86 yX2_close, Cond.instanceMethod yX2_close, Cond.selects RX2 yX2_close yX2_close, Cond.initialized RX2, Cond.code yX2_close cX2_close 8 none, Cond.fieldLink RX2 9 "ParametricFlow$Cycle" "row" "I", Cond.fieldLink RX2 15 "ParametricFlow$Arcs" "place" "[I", Cond.fieldLink RX2 21 "ParametricFlow$Cycle" "along" "Z", Cond.fieldLink RX2 25 "ParametricFlow$Arcs" "from" "[I", Cond.fieldLink RX2 28 "ParametricFlow$Arcs" "to" "[I", Cond.fieldLink RX2 31 "ParametricFlow$Cycle" "tail" "I", Cond.fieldLink RX2 34 "ParametricFlow$Cycle" "head" "I", Cond.fieldLink RX2 43 "ParametricFlow$Cycle" "apex" "I", Cond.fieldLink RX2 49 "ParametricFlow$Cycle" "least" "J", Cond.fieldLink RX2 53 "ParametricFlow$Cycle" "cut" "I", Cond.fieldLink RX2 56 "ParametricFlow$Cycle" "cutAhead" "Z", Cond.fieldLink RX2 59 "ParametricFlow$Tree" "link" "[I", Cond.fieldLink RX2 66 "ParametricFlow$Tree" "parent" "[I", Cond.methodLink RX2 37 yX8_apex]
def wsX1_begin_r7 : List Cond := [Cond.instanceMethod yX8_apex, Cond.selects RX8 yX8_apex yX8_apex, Cond.code yX8_apex cX8_apex 6 (some .int), Cond.methodLink RX2 45 yX0_room, Cond.instanceMethod yX0_room, Cond.selects RX0 yX0_room yX0_room, Cond.code yX0_room cX0_room 3 (some .long), Cond.methodLink RX2 62 yX8_leadsUp, Cond.instanceMethod yX8_leadsUp, Cond.selects RX8 yX8_leadsUp yX8_leadsUp, Cond.code yX8_leadsUp cX8_leadsUp 3 (some .boolean), Cond.methodLink RX7 90 yX2_push, Cond.instanceMethod yX2_push, Cond.selects RX2 yX2_push yX2_push, Cond.code yX2_push cX2_push 5 none, Cond.methodLink RX2 69 yX0_push, Cond.instanceMethod yX0_push, Cond.selects RX0 yX0_push yX0_push, Cond.code yX0_push cX0_push 5 none, Cond.methodLink RX7 94 yX4_add, Cond.instanceMethod yX4_add, Cond.selects RX4 yX4_add yX4_add, Cond.code yX4_add cX4_add 3 none, Cond.fieldLink RX4 9 "ParametricFlow$Longs" "items" "[J"]
def wsX1_begin_r8 : List Cond := [Cond.constant RX4 19 (1000000), Cond.methodLink RX4 20 yJ7_copyOf_c38d5, Cond.static yJ7_copyOf_c38d5, Cond.initialized RJ7, Cond.code yJ7_copyOf_c38d5 cJ7_copyOf_c38d5 3 (some (.array .long)), Cond.methodLink RJ7 319 ⟨"[J", "clone", "()Ljava/lang/Object;"⟩, Cond.sameMethod "[J" "java/lang/Object" "clone" "()Ljava/lang/Object;", Cond.native ⟨"java/lang/Object", "clone", "()Ljava/lang/Object;"⟩, Cond.instanceMethod ⟨"java/lang/Object", "clone", "()Ljava/lang/Object;"⟩, Cond.selects "[J" ⟨"[J", "clone", "()Ljava/lang/Object;"⟩ ⟨"java/lang/Object", "clone", "()Ljava/lang/Object;"⟩, Cond.classLink RJ7 320 "[J", Cond.arrayClass .long, Cond.methodLink RJ7 304 Lib.Math.min.name, Cond.static Lib.Math.min.name, Cond.code Lib.Math.min.name Lib.Math.min.code 2 (some .int), Cond.methodLink RJ7 150 arraycopyName, Cond.native arraycopyName, Cond.static arraycopyName, Cond.initialized "java/lang/System", Cond.methodLink RX7 98 yX2_exchange, Cond.instanceMethod yX2_exchange, Cond.selects RX2 yX2_exchange yX2_exchange, Cond.code yX2_exchange cX2_exchange 4 (some .int), Cond.methodLink RX2 73 yX0_putAtBound]
def wsX1_begin_r9 : List Cond := [Cond.instanceMethod yX0_putAtBound, Cond.selects RX0 yX0_putAtBound yX0_putAtBound, Cond.code yX0_putAtBound cX0_putAtBound 2 none, Cond.methodLink RX2 77 yX8_rehang, Cond.instanceMethod yX8_rehang, Cond.selects RX8 yX8_rehang yX8_rehang, Cond.code yX8_rehang cX8_rehang 11 none, Cond.methodLink RX7 102 yX0_hasArtificialFlow, Cond.instanceMethod yX0_hasArtificialFlow, Cond.selects RX0 yX0_hasArtificialFlow yX0_hasArtificialFlow, Cond.code yX0_hasArtificialFlow cX0_hasArtificialFlow 2 (some .boolean), Cond.methodLink RX3 24 yX7_rate, Cond.instanceMethod yX7_rate, Cond.selects RX7 yX7_rate yX7_rate, Cond.code yX7_rate cX7_rate 5 (some .long), Cond.fieldLink RX7 130 "ParametricFlow$Arcs" "flow" "[J", Cond.fieldLink RX7 133 "ParametricFlow$Network" "slope" "[I", Cond.fieldLink RX7 136 "ParametricFlow$Arcs" "nodes" "I", Cond.fieldLink RX7 139 "ParametricFlow$Network" "supplySlope" "[I", Cond.methodLink RX3 35 yX0_totalCost, Cond.instanceMethod yX0_totalCost, Cond.selects RX0 yX0_totalCost yX0_totalCost, Cond.code yX0_totalCost cX0_totalCost 4 (some .long), Cond.methodLink RX1 82 yX1_nextRight]
def wsX1_begin_r10 : List Cond := [Cond.instanceMethod yX1_nextRight, Cond.selects RX1 yX1_nextRight yX1_nextRight, Cond.initialized RX1, Cond.code yX1_nextRight cX1_nextRight 1 (some (.object "ParametricFlow$Line")), Cond.fieldLink RX1 34 "ParametricFlow$Curve" "rights" "Ljava/util/ArrayList;", Cond.classLink RX1 24 RX3, Cond.instantiable RX3 4, Cond.classLink RX1 24 "ParametricFlow$Line", Cond.methodLink RX1 97 yJx4a65c_size_8abf5, Cond.instanceMethod yJx4a65c_size_8abf5, Cond.selects RJx4a65c yJx4a65c_size_8abf5 yJx4a65c_size_8abf5, Cond.initialized RJx4a65c, Cond.code yJx4a65c_size_8abf5 cJx4a65c_size_8abf5 1 (some .int), Cond.fieldLink RJx4a65c 48 "java/util/ArrayList" "size" "I", Cond.instanceMethod yX3_init, Cond.code yX3_init cX3_init 1 none, Cond.methodLink RX3 3 objectInit, Cond.instanceMethod objectInit, Cond.code objectInit ⟨#[0xb1]⟩ 1 none, Cond.methodLink RX1 101 yJx4a65c_add_9ea2d, Cond.instanceMethod yJx4a65c_add_9ea2d, Cond.selects RJx4a65c yJx4a65c_add_9ea2d yJx4a65c_add_9ea2d, Cond.code yJx4a65c_add_9ea2d cJx4a65c_add_9ea2d 2 (some .boolean), Cond.fieldLink RJx4a65c 63 "java/util/ArrayList" "modCount" "I"]
def wsX1_begin_r11 : List Cond := [Cond.sameField "java/util/ArrayList" "java/util/AbstractList" "modCount" "I", Cond.fieldLink RJx4a65c 9 "java/util/ArrayList" "elementData" "[Ljava/lang/Object;", Cond.methodLink RJx4a65c 131 yJx4a65c_add_72be8, Cond.instanceMethod yJx4a65c_add_72be8, Cond.selects RJx4a65c yJx4a65c_add_72be8 yJx4a65c_add_72be8, Cond.code yJx4a65c_add_72be8 cJx4a65c_add_72be8 4 none, Cond.methodLink RJx4a65c 129 yJx4a65c_grow_d5877, Cond.instanceMethod yJx4a65c_grow_d5877, Cond.selects RJx4a65c yJx4a65c_grow_d5877 yJx4a65c_grow_d5877, Cond.code yJx4a65c_grow_d5877 cJx4a65c_grow_d5877 1 (some (.array (.object "java/lang/Object"))), Cond.methodLink RJx4a65c 69 yJx4a65c_grow_92f84, Cond.instanceMethod yJx4a65c_grow_92f84, Cond.selects RJx4a65c yJx4a65c_grow_92f84 yJx4a65c_grow_92f84, Cond.code yJx4a65c_grow_92f84 cJx4a65c_grow_92f84 4 (some (.array (.object "java/lang/Object"))), Cond.fieldLink RJx4a65c 39 "java/util/ArrayList" "DEFAULTCAPACITY_EMPTY_ELEMENTDATA" "[Ljava/lang/Object;", Cond.methodLink RJx4a65c 79 Lib.Math.max.name, Cond.static Lib.Math.max.name, Cond.code Lib.Math.max.name Lib.Math.max.code 2 (some .int), Cond.classLink RJx4a65c 7 "java/lang/Object", Cond.methodLink RJx4a65c 73 yJ8_newLength_cabcc, Cond.static yJ8_newLength_cabcc, Cond.initialized RJ8, Cond.code yJ8_newLength_cabcc cJ8_newLength_cabcc 4 (some .int), Cond.methodLink RJ8 194 Lib.Math.max.name]
def wsX1_begin_r12 : List Cond := [Cond.constant RJ8 200 (2147483639), Cond.methodLink RJ8 201 yJ8_hugeLength_7cf53, Cond.static yJ8_hugeLength_7cf53, Cond.code yJ8_hugeLength_7cf53 cJ8_hugeLength_7cf53 3 (some .int), Cond.methodLink RJx4a65c 66 yJ7_copyOf_1904c, Cond.static yJ7_copyOf_1904c, Cond.code yJ7_copyOf_1904c cJ7_copyOf_1904c 2 (some (.array (.object "java/lang/Object"))), Cond.methodLink RJ7 86 ⟨"java/lang/Object", "getClass", "()Ljava/lang/Class;"⟩, Cond.selects "[Ljava/lang/Object;" ⟨"java/lang/Object", "getClass", "()Ljava/lang/Class;"⟩ ⟨"java/lang/Object", "getClass", "()Ljava/lang/Class;"⟩, Cond.instanceMethod ⟨"java/lang/Object", "getClass", "()Ljava/lang/Class;"⟩, Cond.native ⟨"java/lang/Object", "getClass", "()Ljava/lang/Class;"⟩, Cond.methodLink RJ7 300 yJ7_copyOf_6403c, Cond.static yJ7_copyOf_6403c, Cond.code yJ7_copyOf_6403c cJ7_copyOf_6403c 4 (some (.array (.object "java/lang/Object"))), Cond.classLink RJ7 110 "[Ljava/lang/Object;", Cond.classLink RJ7 2 "java/lang/Object", Cond.methodLink RX1 60 yJx4a65c_get_915e3, Cond.instanceMethod yJx4a65c_get_915e3, Cond.selects RJx4a65c yJx4a65c_get_915e3 yJx4a65c_get_915e3, Cond.code yJx4a65c_get_915e3 cJx4a65c_get_915e3 2 (some (.object "java/lang/Object")), Cond.methodLink RJx4a65c 118 yJ15_checkIndex_7cf53, Cond.static yJ15_checkIndex_7cf53, Cond.initialized RJ15, Cond.code yJ15_checkIndex_7cf53 cJ15_checkIndex_7cf53 2 (some .int)]
def wsX1_begin_r13 : List Cond := [Cond.methodLink RJ15 105 yJ3_checkIndex_8e157, Cond.static yJ3_checkIndex_8e157, Cond.initialized RJ3, Cond.code yJ3_checkIndex_8e157 cJ3_checkIndex_8e157 3 (some .int), Cond.methodLink RJx4a65c 123 yJx4a65c_elementData_915e3, Cond.instanceMethod yJx4a65c_elementData_915e3, Cond.selects RJx4a65c yJx4a65c_elementData_915e3 yJx4a65c_elementData_915e3, Cond.code yJx4a65c_elementData_915e3 cJx4a65c_elementData_915e3 2 (some (.object "java/lang/Object")), Cond.methodLink RX1 86 yX4_clear, Cond.methodLink RX1 93 yX4_add]
def wsX1_begin : List Cond := .code yX1_begin cX1_begin 3 (some .int) :: ((wsX1_begin_r1 ++ (wsX1_begin_r2 ++ (wsX1_begin_r3 ++ (wsX1_begin_r4 ++ (wsX1_begin_r5 ++ (wsX1_begin_r6 ++ (wsX1_begin_r7 ++ (wsX1_begin_r8 ++ (wsX1_begin_r9 ++ (wsX1_begin_r10 ++ (wsX1_begin_r11 ++ (wsX1_begin_r12 ++ wsX1_begin_r13)))))))))))) ++ wsX10 ++ wsX30 ++ wsX50 ++ wsX70 ++ wsX40 ++ wsX00 ++ wsX80 ++ wsX20 ++ wsJx4a65c0)
def wsX3_meets : List Cond := .code yX3_meets cX3_meets 2 (some .boolean) :: ([.fieldLink RX3 41 "ParametricFlow$Line" "start" "J", .fieldLink RX3 9 "ParametricFlow$Line" "q" "J", .fieldLink RX3 28 "ParametricFlow$Line" "slope" "J", .fieldLink RX3 15 "ParametricFlow$Line" "p" "J"] ++ wsX30)
def wsX9_commonDivisor : List Cond := .code yX9_commonDivisor cX9_commonDivisor 11 (some .long) :: ([.methodLink RX9 208 Lib.MathLoose.abs_long.x, .static Lib.MathLoose.abs_long.x, .initialized "java/lang/Math", .code Lib.MathLoose.abs_long.x Lib.MathLoose.abs_long.code 2 (some .long)])
def wsX1_trace_r1 : List Cond := [Cond.fieldLink RX1 38 "ParametricFlow$Curve" "known" "Z", Cond.fieldLink RX1 42 "ParametricFlow$Curve" "low" "I", Cond.fieldLink RX1 46 "ParametricFlow$Curve" "high" "I", Cond.fieldLink RX1 49 "ParametricFlow$Curve" "answer" "I", Cond.fieldLink RX1 56 "ParametricFlow$Curve" "depth" "I", Cond.constant RX1 59 (1000000), Cond.fieldLink RX1 34 "ParametricFlow$Curve" "rights" "Ljava/util/ArrayList;", Cond.classLink RX1 24 "ParametricFlow$Line", Cond.fieldLink RX1 27 "ParametricFlow$Curve" "left" "LParametricFlow$Line;", Cond.methodLink RX1 52 yX1_begin, Cond.instanceMethod yX1_begin, Cond.selects RX1 yX1_begin yX1_begin, Cond.initialized RX1, Cond.code yX1_begin cX1_begin 3 (some .int), Cond.fieldLink RX1 12 "ParametricFlow$Curve" "numerators" "LParametricFlow$Longs;", Cond.fieldLink RX1 18 "ParametricFlow$Curve" "denominators" "LParametricFlow$Longs;", Cond.fieldLink RX1 21 "ParametricFlow$Curve" "slopes" "LParametricFlow$Longs;", Cond.fieldLink RX1 89 "ParametricFlow$Line" "slope" "J", Cond.methodLink RX1 72 yX5_isBalanced, Cond.instanceMethod yX5_isBalanced, Cond.selects RX5 yX5_isBalanced yX5_isBalanced, Cond.initialized RX5, Cond.code yX5_isBalanced cX5_isBalanced 8 (some .boolean), Cond.fieldLink RX5 9 "ParametricFlow$Network" "nodes" "I"]
def wsX1_trace_r2 : List Cond := [Cond.methodLink RX5 49 yX5_scaledSupply, Cond.instanceMethod yX5_scaledSupply, Cond.selects RX5 yX5_scaledSupply yX5_scaledSupply, Cond.code yX5_scaledSupply cX5_scaledSupply 6 (some .long), Cond.fieldLink RX5 15 "ParametricFlow$Network" "mode" "I", Cond.fieldLink RX5 18 "ParametricFlow$Network" "supply" "[I", Cond.fieldLink RX5 22 "ParametricFlow$Network" "supplySlope" "[I", Cond.methodLink RX1 78 yX3_touch, Cond.instanceMethod yX3_touch, Cond.selects RX3 yX3_touch yX3_touch, Cond.initialized RX3, Cond.code yX3_touch cX3_touch 7 (some .boolean), Cond.fieldLink RX3 15 "ParametricFlow$Line" "p" "J", Cond.fieldLink RX3 9 "ParametricFlow$Line" "q" "J", Cond.fieldLink RX3 28 "ParametricFlow$Line" "slope" "J", Cond.fieldLink RX3 31 "ParametricFlow$Simplex" "arcs" "LParametricFlow$Arcs;", Cond.fieldLink RX3 41 "ParametricFlow$Line" "start" "J", Cond.methodLink RX3 18 yX7_run, Cond.instanceMethod yX7_run, Cond.selects RX7 yX7_run yX7_run, Cond.initialized RX7, Cond.code yX7_run cX7_run 8 (some .int), Cond.fieldLink RX7 53 "ParametricFlow$Network" "mode" "I", Cond.fieldLink RX7 59 "ParametricFlow$Simplex" "mode" "I"]
def wsX1_trace_r3 : List Cond := [Cond.fieldLink RX7 60 "ParametricFlow$Simplex" "p" "J", Cond.fieldLink RX7 9 "ParametricFlow$Simplex" "q" "J", Cond.fieldLink RX7 39 "ParametricFlow$Simplex" "entered" "LParametricFlow$Longs;", Cond.fieldLink RX7 43 "ParametricFlow$Simplex" "left" "LParametricFlow$Longs;", Cond.fieldLink RX7 18 "ParametricFlow$Simplex" "arcs" "LParametricFlow$Arcs;", Cond.fieldLink RX7 25 "ParametricFlow$Simplex" "tree" "LParametricFlow$Tree;", Cond.constant RX7 78 (1000000), Cond.fieldLink RX7 32 "ParametricFlow$Simplex" "cycle" "LParametricFlow$Cycle;", Cond.methodLink RX7 63 yX4_clear, Cond.instanceMethod yX4_clear, Cond.selects RX4 yX4_clear yX4_clear, Cond.initialized RX4, Cond.code yX4_clear cX4_clear 1 none, Cond.fieldLink RX4 15 "ParametricFlow$Longs" "size" "I", Cond.methodLink RX7 66 yX5_isBalanced, Cond.methodLink RX7 70 yX0_load, Cond.instanceMethod yX0_load, Cond.selects RX0 yX0_load yX0_load, Cond.initialized RX0, Cond.code yX0_load cX0_load 9 none, Cond.fieldLink RX0 31 "ParametricFlow$Network" "nodes" "I", Cond.fieldLink RX0 37 "ParametricFlow$Arcs" "nodes" "I", Cond.fieldLink RX0 38 "ParametricFlow$Network" "arcs" "I", Cond.fieldLink RX0 41 "ParametricFlow$Arcs" "count" "I"]
def wsX1_trace_r4 : List Cond := [Cond.fieldLink RX0 9 "ParametricFlow$Arcs" "from" "[I", Cond.fieldLink RX0 44 "ParametricFlow$Network" "from" "[I", Cond.fieldLink RX0 15 "ParametricFlow$Arcs" "to" "[I", Cond.fieldLink RX0 45 "ParametricFlow$Network" "to" "[I", Cond.fieldLink RX0 18 "ParametricFlow$Arcs" "capacity" "[J", Cond.fieldLink RX0 22 "ParametricFlow$Arcs" "cost" "[J", Cond.fieldLink RX0 25 "ParametricFlow$Arcs" "flow" "[J", Cond.fieldLink RX0 28 "ParametricFlow$Arcs" "place" "[I", Cond.methodLink RX0 54 Lib.MathLoose.abs_long.x, Cond.static Lib.MathLoose.abs_long.x, Cond.initialized "java/lang/Math", Cond.code Lib.MathLoose.abs_long.x Lib.MathLoose.abs_long.code 2 (some .long), Cond.methodLink RX0 60 Lib.MathLoose.max_long.x, Cond.static Lib.MathLoose.max_long.x, Cond.code Lib.MathLoose.max_long.x Lib.MathLoose.max_long.code 4 (some .long), Cond.methodLink RX0 46 yX5_scaledCapacity, Cond.instanceMethod yX5_scaledCapacity, Cond.selects RX5 yX5_scaledCapacity yX5_scaledCapacity, Cond.code yX5_scaledCapacity cX5_scaledCapacity 4 (some .long), Cond.fieldLink RX5 31 "ParametricFlow$Network" "capacity" "[I", Cond.methodLink RX0 50 yX5_scaledCost, Cond.instanceMethod yX5_scaledCost, Cond.selects RX5 yX5_scaledCost yX5_scaledCost, Cond.code yX5_scaledCost cX5_scaledCost 6 (some .long)]
def wsX1_trace_r5 : List Cond := [Cond.fieldLink RX5 34 "ParametricFlow$Network" "cost" "[I", Cond.fieldLink RX5 37 "ParametricFlow$Network" "slope" "[I", Cond.methodLink RX0 64 yX5_scaledSupply, Cond.methodLink RX0 67 yX0_loadArtificial, Cond.instanceMethod yX0_loadArtificial, Cond.selects RX0 yX0_loadArtificial yX0_loadArtificial, Cond.code yX0_loadArtificial cX0_loadArtificial 7 none, Cond.constantLong RX0 71 (1152921504606846976), Cond.methodLink RX7 74 yX8_plant, Cond.instanceMethod yX8_plant, Cond.selects RX8 yX8_plant yX8_plant, Cond.initialized RX8, Cond.code yX8_plant cX8_plant 3 none, Cond.fieldLink RX8 34 "ParametricFlow$Arcs" "nodes" "I", Cond.fieldLink RX8 40 "ParametricFlow$Tree" "root" "I", Cond.fieldLink RX8 9 "ParametricFlow$Tree" "parent" "[I", Cond.fieldLink RX8 18 "ParametricFlow$Tree" "depth" "[I", Cond.fieldLink RX8 21 "ParametricFlow$Tree" "potential" "[J", Cond.fieldLink RX8 15 "ParametricFlow$Tree" "link" "[I", Cond.methodLink RX7 79 yX8_measure, Cond.instanceMethod yX8_measure, Cond.selects RX8 yX8_measure yX8_measure, Cond.code yX8_measure cX8_measure 8 none, Cond.fieldLink RX8 43 "ParametricFlow$Arcs" "from" "[I"]
def wsX1_trace_r6 : List Cond := [Cond.fieldLink RX8 46 "ParametricFlow$Arcs" "cost" "[J", Cond.methodLink RX7 82 yX7_entering, Cond.instanceMethod yX7_entering, Cond.selects RX7 yX7_entering yX7_entering, Cond.code yX7_entering cX7_entering 7 (some .int), Cond.fieldLink RX7 120 "ParametricFlow$Arcs" "count" "I", Cond.fieldLink RX7 123 "ParametricFlow$Arcs" "place" "[I", Cond.methodLink RX7 126 yX7_reduced, Cond.instanceMethod yX7_reduced, Cond.selects RX7 yX7_reduced yX7_reduced, Cond.code yX7_reduced cX7_reduced 2 (some .long), Cond.fieldLink RX7 106 "ParametricFlow$Arcs" "cost" "[J", Cond.fieldLink RX7 110 "ParametricFlow$Tree" "potential" "[J", Cond.fieldLink RX7 113 "ParametricFlow$Arcs" "from" "[I", Cond.fieldLink RX7 117 "ParametricFlow$Arcs" "to" "[I", Cond.methodLink RX7 86 yX2_close, Cond.instanceMethod yX2_close, Cond.selects RX2 yX2_close yX2_close, Cond.initialized RX2, Cond.code yX2_close cX2_close 8 none, Cond.fieldLink RX2 9 "ParametricFlow$Cycle" "row" "I", Cond.fieldLink RX2 15 "ParametricFlow$Arcs" "place" "[I", Cond.fieldLink RX2 21 "ParametricFlow$Cycle" "along" "Z", Cond.fieldLink RX2 25 "ParametricFlow$Arcs" "from" "[I"]
def wsX1_trace_r7 : List Cond := [Cond.fieldLink RX2 28 "ParametricFlow$Arcs" "to" "[I", Cond.fieldLink RX2 31 "ParametricFlow$Cycle" "tail" "I", Cond.fieldLink RX2 34 "ParametricFlow$Cycle" "head" "I", Cond.fieldLink RX2 43 "ParametricFlow$Cycle" "apex" "I", Cond.fieldLink RX2 49 "ParametricFlow$Cycle" "least" "J", Cond.fieldLink RX2 53 "ParametricFlow$Cycle" "cut" "I", Cond.fieldLink RX2 56 "ParametricFlow$Cycle" "cutAhead" "Z", Cond.fieldLink RX2 59 "ParametricFlow$Tree" "link" "[I", Cond.fieldLink RX2 66 "ParametricFlow$Tree" "parent" "[I", Cond.methodLink RX2 37 yX8_apex, Cond.instanceMethod yX8_apex, Cond.selects RX8 yX8_apex yX8_apex, Cond.code yX8_apex cX8_apex 6 (some .int), Cond.methodLink RX2 45 yX0_room, Cond.instanceMethod yX0_room, Cond.selects RX0 yX0_room yX0_room, Cond.code yX0_room cX0_room 3 (some .long), Cond.methodLink RX2 62 yX8_leadsUp, Cond.instanceMethod yX8_leadsUp, Cond.selects RX8 yX8_leadsUp yX8_leadsUp, Cond.code yX8_leadsUp cX8_leadsUp 3 (some .boolean), Cond.methodLink RX7 90 yX2_push, Cond.instanceMethod yX2_push, Cond.selects RX2 yX2_push yX2_push]
def wsX1_trace_r8 : List Cond := [Cond.code yX2_push cX2_push 5 none, Cond.methodLink RX2 69 yX0_push, Cond.instanceMethod yX0_push, Cond.selects RX0 yX0_push yX0_push, Cond.code yX0_push cX0_push 5 none, Cond.methodLink RX7 94 yX4_add, Cond.instanceMethod yX4_add, Cond.selects RX4 yX4_add yX4_add, Cond.code yX4_add cX4_add 3 none, Cond.fieldLink RX4 9 "ParametricFlow$Longs" "items" "[J", Cond.constant RX4 19 (1000000), Cond.methodLink RX4 20 yJ7_copyOf_c38d5, Cond.static yJ7_copyOf_c38d5, Cond.initialized RJ7, Cond.code yJ7_copyOf_c38d5 cJ7_copyOf_c38d5 3 (some (.array .long)), Cond.methodLink RJ7 319 ⟨"[J", "clone", "()Ljava/lang/Object;"⟩, Cond.sameMethod "[J" "java/lang/Object" "clone" "()Ljava/lang/Object;", Cond.native ⟨"java/lang/Object", "clone", "()Ljava/lang/Object;"⟩, Cond.instanceMethod ⟨"java/lang/Object", "clone", "()Ljava/lang/Object;"⟩, Cond.selects "[J" ⟨"[J", "clone", "()Ljava/lang/Object;"⟩ ⟨"java/lang/Object", "clone", "()Ljava/lang/Object;"⟩, Cond.classLink RJ7 320 "[J", Cond.arrayClass .long, Cond.methodLink RJ7 304 Lib.Math.min.name, Cond.static Lib.Math.min.name]
def wsX1_trace_r9 : List Cond := [Cond.code Lib.Math.min.name Lib.Math.min.code 2 (some .int), Cond.methodLink RJ7 150 arraycopyName, Cond.native arraycopyName, Cond.static arraycopyName, Cond.initialized "java/lang/System", Cond.methodLink RX7 98 yX2_exchange, Cond.instanceMethod yX2_exchange, Cond.selects RX2 yX2_exchange yX2_exchange, Cond.code yX2_exchange cX2_exchange 4 (some .int), Cond.methodLink RX2 73 yX0_putAtBound, Cond.instanceMethod yX0_putAtBound, Cond.selects RX0 yX0_putAtBound yX0_putAtBound, Cond.code yX0_putAtBound cX0_putAtBound 2 none, Cond.methodLink RX2 77 yX8_rehang, Cond.instanceMethod yX8_rehang, Cond.selects RX8 yX8_rehang yX8_rehang, Cond.code yX8_rehang cX8_rehang 11 none, Cond.methodLink RX7 102 yX0_hasArtificialFlow, Cond.instanceMethod yX0_hasArtificialFlow, Cond.selects RX0 yX0_hasArtificialFlow yX0_hasArtificialFlow, Cond.code yX0_hasArtificialFlow cX0_hasArtificialFlow 2 (some .boolean), Cond.methodLink RX3 24 yX7_rate, Cond.instanceMethod yX7_rate, Cond.selects RX7 yX7_rate yX7_rate]
def wsX1_trace_r10 : List Cond := [Cond.code yX7_rate cX7_rate 5 (some .long), Cond.fieldLink RX7 130 "ParametricFlow$Arcs" "flow" "[J", Cond.fieldLink RX7 133 "ParametricFlow$Network" "slope" "[I", Cond.fieldLink RX7 136 "ParametricFlow$Arcs" "nodes" "I", Cond.fieldLink RX7 139 "ParametricFlow$Network" "supplySlope" "[I", Cond.methodLink RX3 35 yX0_totalCost, Cond.instanceMethod yX0_totalCost, Cond.selects RX0 yX0_totalCost yX0_totalCost, Cond.code yX0_totalCost cX0_totalCost 4 (some .long), Cond.methodLink RX1 82 yX1_nextRight, Cond.instanceMethod yX1_nextRight, Cond.selects RX1 yX1_nextRight yX1_nextRight, Cond.code yX1_nextRight cX1_nextRight 1 (some (.object "ParametricFlow$Line")), Cond.classLink RX1 24 RX3, Cond.instantiable RX3 4, Cond.methodLink RX1 97 yJx4a65c_size_8abf5, Cond.instanceMethod yJx4a65c_size_8abf5, Cond.selects RJx4a65c yJx4a65c_size_8abf5 yJx4a65c_size_8abf5, Cond.initialized RJx4a65c, Cond.code yJx4a65c_size_8abf5 cJx4a65c_size_8abf5 1 (some .int), Cond.fieldLink RJx4a65c 48 "java/util/ArrayList" "size" "I", Cond.instanceMethod yX3_init, Cond.code yX3_init cX3_init 1 none, Cond.methodLink RX3 3 objectInit]
def wsX1_trace_r11 : List Cond := [Cond.instanceMethod objectInit, Cond.code objectInit ⟨#[0xb1]⟩ 1 none, Cond.methodLink RX1 101 yJx4a65c_add_9ea2d, Cond.instanceMethod yJx4a65c_add_9ea2d, Cond.selects RJx4a65c yJx4a65c_add_9ea2d yJx4a65c_add_9ea2d, Cond.code yJx4a65c_add_9ea2d cJx4a65c_add_9ea2d 2 (some .boolean), Cond.fieldLink RJx4a65c 63 "java/util/ArrayList" "modCount" "I", Cond.sameField "java/util/ArrayList" "java/util/AbstractList" "modCount" "I", Cond.fieldLink RJx4a65c 9 "java/util/ArrayList" "elementData" "[Ljava/lang/Object;", Cond.methodLink RJx4a65c 131 yJx4a65c_add_72be8, Cond.instanceMethod yJx4a65c_add_72be8, Cond.selects RJx4a65c yJx4a65c_add_72be8 yJx4a65c_add_72be8, Cond.code yJx4a65c_add_72be8 cJx4a65c_add_72be8 4 none, Cond.methodLink RJx4a65c 129 yJx4a65c_grow_d5877, Cond.instanceMethod yJx4a65c_grow_d5877, Cond.selects RJx4a65c yJx4a65c_grow_d5877 yJx4a65c_grow_d5877, Cond.code yJx4a65c_grow_d5877 cJx4a65c_grow_d5877 1 (some (.array (.object "java/lang/Object"))), Cond.methodLink RJx4a65c 69 yJx4a65c_grow_92f84, Cond.instanceMethod yJx4a65c_grow_92f84, Cond.selects RJx4a65c yJx4a65c_grow_92f84 yJx4a65c_grow_92f84, Cond.code yJx4a65c_grow_92f84 cJx4a65c_grow_92f84 4 (some (.array (.object "java/lang/Object"))), Cond.fieldLink RJx4a65c 39 "java/util/ArrayList" "DEFAULTCAPACITY_EMPTY_ELEMENTDATA" "[Ljava/lang/Object;", Cond.methodLink RJx4a65c 79 Lib.Math.max.name, Cond.static Lib.Math.max.name]
def wsX1_trace_r12 : List Cond := [Cond.code Lib.Math.max.name Lib.Math.max.code 2 (some .int), Cond.classLink RJx4a65c 7 "java/lang/Object", Cond.methodLink RJx4a65c 73 yJ8_newLength_cabcc, Cond.static yJ8_newLength_cabcc, Cond.initialized RJ8, Cond.code yJ8_newLength_cabcc cJ8_newLength_cabcc 4 (some .int), Cond.methodLink RJ8 194 Lib.Math.max.name, Cond.constant RJ8 200 (2147483639), Cond.methodLink RJ8 201 yJ8_hugeLength_7cf53, Cond.static yJ8_hugeLength_7cf53, Cond.code yJ8_hugeLength_7cf53 cJ8_hugeLength_7cf53 3 (some .int), Cond.methodLink RJx4a65c 66 yJ7_copyOf_1904c, Cond.static yJ7_copyOf_1904c, Cond.code yJ7_copyOf_1904c cJ7_copyOf_1904c 2 (some (.array (.object "java/lang/Object"))), Cond.methodLink RJ7 86 ⟨"java/lang/Object", "getClass", "()Ljava/lang/Class;"⟩, Cond.selects "[Ljava/lang/Object;" ⟨"java/lang/Object", "getClass", "()Ljava/lang/Class;"⟩ ⟨"java/lang/Object", "getClass", "()Ljava/lang/Class;"⟩, Cond.instanceMethod ⟨"java/lang/Object", "getClass", "()Ljava/lang/Class;"⟩, Cond.native ⟨"java/lang/Object", "getClass", "()Ljava/lang/Class;"⟩, Cond.methodLink RJ7 300 yJ7_copyOf_6403c, Cond.static yJ7_copyOf_6403c, Cond.code yJ7_copyOf_6403c cJ7_copyOf_6403c 4 (some (.array (.object "java/lang/Object"))), Cond.classLink RJ7 110 "[Ljava/lang/Object;", Cond.classLink RJ7 2 "java/lang/Object", Cond.methodLink RX1 60 yJx4a65c_get_915e3]
def wsX1_trace_r13 : List Cond := [Cond.instanceMethod yJx4a65c_get_915e3, Cond.selects RJx4a65c yJx4a65c_get_915e3 yJx4a65c_get_915e3, Cond.code yJx4a65c_get_915e3 cJx4a65c_get_915e3 2 (some (.object "java/lang/Object")), Cond.methodLink RJx4a65c 118 yJ15_checkIndex_7cf53, Cond.static yJ15_checkIndex_7cf53, Cond.initialized RJ15, Cond.code yJ15_checkIndex_7cf53 cJ15_checkIndex_7cf53 2 (some .int), Cond.methodLink RJ15 105 yJ3_checkIndex_8e157, Cond.static yJ3_checkIndex_8e157, Cond.initialized RJ3, Cond.code yJ3_checkIndex_8e157 cJ3_checkIndex_8e157 3 (some .int), Cond.methodLink RJx4a65c 123 yJx4a65c_elementData_915e3, Cond.instanceMethod yJx4a65c_elementData_915e3, Cond.selects RJx4a65c yJx4a65c_elementData_915e3 yJx4a65c_elementData_915e3, Cond.code yJx4a65c_elementData_915e3 cJx4a65c_elementData_915e3 2 (some (.object "java/lang/Object")), Cond.methodLink RX1 86 yX4_clear, Cond.methodLink RX1 93 yX4_add, Cond.methodLink RX1 64 yX3_meets, Cond.instanceMethod yX3_meets, Cond.selects RX3 yX3_meets yX3_meets, Cond.code yX3_meets cX3_meets 2 (some .boolean), Cond.methodLink RX1 68 yX1_split, Cond.instanceMethod yX1_split, Cond.selects RX1 yX1_split yX1_split]
def wsX1_trace_r14 : List Cond := [Cond.code yX1_split cX1_split 13 none, Cond.constantLong RX1 104 (-1), Cond.fieldLink RX1 106 "ParametricFlow$Line" "start" "J", Cond.fieldLink RX1 113 "ParametricFlow$Line" "p" "J", Cond.fieldLink RX1 116 "ParametricFlow$Line" "q" "J", Cond.static yX9_commonDivisor, Cond.initialized RX9, Cond.code yX9_commonDivisor cX9_commonDivisor 11 (some .long), Cond.methodLink RX9 208 Lib.MathLoose.abs_long.x, Cond.methodLink RX1 119 yX1_addPiece, Cond.instanceMethod yX1_addPiece, Cond.selects RX1 yX1_addPiece yX1_addPiece, Cond.code yX1_addPiece cX1_addPiece 7 none, Cond.methodLink RX1 123 yX3_copy, Cond.instanceMethod yX3_copy, Cond.selects RX3 yX3_copy yX3_copy, Cond.code yX3_copy cX3_copy 2 none]
def wsX1_trace : List Cond := .code yX1_trace cX1_trace 7 (some .int) :: ((wsX1_trace_r1 ++ (wsX1_trace_r2 ++ (wsX1_trace_r3 ++ (wsX1_trace_r4 ++ (wsX1_trace_r5 ++ (wsX1_trace_r6 ++ (wsX1_trace_r7 ++ (wsX1_trace_r8 ++ (wsX1_trace_r9 ++ (wsX1_trace_r10 ++ (wsX1_trace_r11 ++ (wsX1_trace_r12 ++ (wsX1_trace_r13 ++ wsX1_trace_r14))))))))))))) ++ wsX10 ++ wsX30 ++ wsX50 ++ wsX70 ++ wsX40 ++ wsX00 ++ wsX80 ++ wsX20 ++ wsJx4a65c0)
def wsX2_init : List Cond := .code yX2_init cX2_init 1 none :: ([.methodLink RX2 3 objectInit, .instanceMethod objectInit, .code objectInit ⟨#[0xb1]⟩ 1 none])
def wsX4_at : List Cond := .code yX4_at cX4_at 2 (some .long) :: ([.fieldLink RX4 15 "ParametricFlow$Longs" "size" "I", .fieldLink RX4 9 "ParametricFlow$Longs" "items" "[J", .constantLong RX4 26 (-9223372036854775808)] ++ wsX40)
def wsX5_init : List Cond := .code yX5_init cX5_init 1 none :: ([.methodLink RX5 3 objectInit, .instanceMethod objectInit, .code objectInit ⟨#[0xb1]⟩ 1 none, .fieldLink RX5 9 "ParametricFlow$Network" "nodes" "I", .fieldLink RX5 15 "ParametricFlow$Network" "mode" "I", .arrayClass .int, .fieldLink RX5 18 "ParametricFlow$Network" "supply" "[I", .fieldLink RX5 22 "ParametricFlow$Network" "supplySlope" "[I", .fieldLink RX5 25 "ParametricFlow$Network" "from" "[I", .fieldLink RX5 28 "ParametricFlow$Network" "to" "[I", .fieldLink RX5 31 "ParametricFlow$Network" "capacity" "[I", .fieldLink RX5 34 "ParametricFlow$Network" "cost" "[I", .fieldLink RX5 37 "ParametricFlow$Network" "slope" "[I"] ++ wsX50)
def wsJ7_fill_53178 : List Cond := .code yJ7_fill_53178 cJ7_fill_53178 4 none :: ([])
def wsX5_clear : List Cond := .code yX5_clear cX5_clear 2 none :: ([.fieldLink RX5 9 "ParametricFlow$Network" "nodes" "I", .fieldLink RX5 40 "ParametricFlow$Network" "arcs" "I", .fieldLink RX5 15 "ParametricFlow$Network" "mode" "I", .fieldLink RX5 18 "ParametricFlow$Network" "supply" "[I", .fieldLink RX5 22 "ParametricFlow$Network" "supplySlope" "[I", .methodLink RX5 43 yJ7_fill_53178, .static yJ7_fill_53178, .initialized RJ7, .code yJ7_fill_53178 cJ7_fill_53178 4 none] ++ wsX50)
def wsX5_hasNode : List Cond := .code yX5_hasNode cX5_hasNode 2 (some .boolean) :: ([.fieldLink RX5 9 "ParametricFlow$Network" "nodes" "I"] ++ wsX50)
def wsX5_hasArc : List Cond := .code yX5_hasArc cX5_hasArc 2 (some .boolean) :: ([.fieldLink RX5 40 "ParametricFlow$Network" "arcs" "I"] ++ wsX50)
def wsX5_sumOf : List Cond := .code yX5_sumOf cX5_sumOf 4 (some .int) :: ([.fieldLink RX5 9 "ParametricFlow$Network" "nodes" "I"] ++ wsX50)
def wsX6_init : List Cond := .code yX6_init cX6_init 1 none :: ([.methodLink RX6 1 objectInit, .instanceMethod objectInit, .code objectInit ⟨#[0xb1]⟩ 1 none, .fieldLink RX6 7 "ParametricFlow$Range" "lowerBottom" "J", .fieldLink RX6 13 "ParametricFlow$Range" "upperBottom" "J"] ++ wsX60)
def wsX8_init : List Cond := .code yX8_init cX8_init 1 none :: ([.methodLink RX8 3 objectInit, .instanceMethod objectInit, .code objectInit ⟨#[0xb1]⟩ 1 none, .arrayClass .int, .fieldLink RX8 9 "ParametricFlow$Tree" "parent" "[I", .fieldLink RX8 15 "ParametricFlow$Tree" "link" "[I", .fieldLink RX8 18 "ParametricFlow$Tree" "depth" "[I", .arrayClass .long, .fieldLink RX8 21 "ParametricFlow$Tree" "potential" "[J", .fieldLink RX8 25 "ParametricFlow$Tree" "size" "[I", .fieldLink RX8 28 "ParametricFlow$Tree" "order" "[I", .fieldLink RX8 31 "ParametricFlow$Tree" "waiting" "[I"] ++ wsX80)
def wsX7_init_r1 : List Cond := [Cond.methodLink RX7 3 objectInit, Cond.instanceMethod objectInit, Cond.code objectInit ⟨#[0xb1]⟩ 1 none, Cond.fieldLink RX7 9 "ParametricFlow$Simplex" "q" "J", Cond.classLink RX7 15 RX0, Cond.instantiable RX0 8, Cond.initialized RX0, Cond.fieldLink RX7 18 "ParametricFlow$Simplex" "arcs" "LParametricFlow$Arcs;", Cond.classLink RX7 22 RX8, Cond.instantiable RX8 8, Cond.initialized RX8, Cond.fieldLink RX7 25 "ParametricFlow$Simplex" "tree" "LParametricFlow$Tree;", Cond.classLink RX7 29 RX2, Cond.instantiable RX2 8, Cond.initialized RX2, Cond.fieldLink RX7 32 "ParametricFlow$Simplex" "cycle" "LParametricFlow$Cycle;", Cond.classLink RX7 36 RX4, Cond.instantiable RX4 2, Cond.initialized RX4, Cond.fieldLink RX7 39 "ParametricFlow$Simplex" "entered" "LParametricFlow$Longs;", Cond.fieldLink RX7 43 "ParametricFlow$Simplex" "left" "LParametricFlow$Longs;", Cond.classLink RX7 46 RX6, Cond.instantiable RX6 6, Cond.initialized RX6]
def wsX7_init_r2 : List Cond := [Cond.fieldLink RX7 49 "ParametricFlow$Simplex" "range" "LParametricFlow$Range;", Cond.instanceMethod yX0_init, Cond.code yX0_init cX0_init 1 none, Cond.methodLink RX0 3 objectInit, Cond.arrayClass .int, Cond.fieldLink RX0 9 "ParametricFlow$Arcs" "from" "[I", Cond.fieldLink RX0 15 "ParametricFlow$Arcs" "to" "[I", Cond.arrayClass .long, Cond.fieldLink RX0 18 "ParametricFlow$Arcs" "capacity" "[J", Cond.fieldLink RX0 22 "ParametricFlow$Arcs" "cost" "[J", Cond.fieldLink RX0 25 "ParametricFlow$Arcs" "flow" "[J", Cond.fieldLink RX0 28 "ParametricFlow$Arcs" "place" "[I", Cond.instanceMethod yX8_init, Cond.code yX8_init cX8_init 1 none, Cond.methodLink RX8 3 objectInit, Cond.fieldLink RX8 9 "ParametricFlow$Tree" "parent" "[I", Cond.fieldLink RX8 15 "ParametricFlow$Tree" "link" "[I", Cond.fieldLink RX8 18 "ParametricFlow$Tree" "depth" "[I", Cond.fieldLink RX8 21 "ParametricFlow$Tree" "potential" "[J", Cond.fieldLink RX8 25 "ParametricFlow$Tree" "size" "[I", Cond.fieldLink RX8 28 "ParametricFlow$Tree" "order" "[I", Cond.fieldLink RX8 31 "ParametricFlow$Tree" "waiting" "[I", Cond.instanceMethod yX2_init, Cond.code yX2_init cX2_init 1 none]
def wsX7_init_r3 : List Cond := [Cond.methodLink RX2 3 objectInit, Cond.instanceMethod yX4_init, Cond.code yX4_init cX4_init 1 none, Cond.methodLink RX4 3 objectInit, Cond.fieldLink RX4 9 "ParametricFlow$Longs" "items" "[J", Cond.instanceMethod yX6_init, Cond.code yX6_init cX6_init 1 none, Cond.methodLink RX6 1 objectInit, Cond.fieldLink RX6 7 "ParametricFlow$Range" "lowerBottom" "J", Cond.fieldLink RX6 13 "ParametricFlow$Range" "upperBottom" "J"]
def wsX7_init : List Cond := .code yX7_init cX7_init 1 none :: ((wsX7_init_r1 ++ (wsX7_init_r2 ++ wsX7_init_r3)) ++ wsX70 ++ wsX00 ++ wsX80 ++ wsX20 ++ wsX40 ++ wsX60)
def wsX9_lowestTerms : List Cond := .code yX9_lowestTerms cX9_lowestTerms 7 (some .long) :: ([.constantLong RX9 147 (-9223372036854775808), .methodLink RX9 204 yX9_commonDivisor, .static yX9_commonDivisor, .initialized RX9, .code yX9_commonDivisor cX9_commonDivisor 11 (some .long), .methodLink RX9 208 Lib.MathLoose.abs_long.x, .static Lib.MathLoose.abs_long.x, .initialized "java/lang/Math", .code Lib.MathLoose.abs_long.x Lib.MathLoose.abs_long.code 2 (some .long)])
def wsX8_putInOrder : List Cond := .code yX8_putInOrder cX8_putInOrder 5 none :: ([.fieldLink RX8 31 "ParametricFlow$Tree" "waiting" "[I", .fieldLink RX8 40 "ParametricFlow$Tree" "root" "I", .fieldLink RX8 28 "ParametricFlow$Tree" "order" "[I", .fieldLink RX8 9 "ParametricFlow$Tree" "parent" "[I", .fieldLink RX8 25 "ParametricFlow$Tree" "size" "[I", .methodLink RX8 49 yJ7_fill_53178, .static yJ7_fill_53178, .initialized RJ7, .code yJ7_fill_53178 cJ7_fill_53178 4 none] ++ wsX80)
def wsX9_init_r1 : List Cond := [Cond.methodLink RX9 5 objectInit, Cond.instanceMethod objectInit, Cond.code objectInit ⟨#[0xb1]⟩ 1 none, Cond.classLink RX9 11 RX5, Cond.instantiable RX5 10, Cond.initialized RX5, Cond.fieldLink RX9 14 "ParametricFlow" "net" "LParametricFlow$Network;", Cond.classLink RX9 18 RX1, Cond.instantiable RX1 10, Cond.initialized RX1, Cond.fieldLink RX9 21 "ParametricFlow" "curve" "LParametricFlow$Curve;", Cond.classLink RX9 25 RX7, Cond.instantiable RX7 9, Cond.initialized RX7, Cond.fieldLink RX9 28 "ParametricFlow" "kept" "LParametricFlow$Simplex;", Cond.fieldLink RX9 32 "ParametricFlow" "work" "LParametricFlow$Simplex;", Cond.instanceMethod yX5_init, Cond.code yX5_init cX5_init 1 none, Cond.methodLink RX5 3 objectInit, Cond.fieldLink RX5 9 "ParametricFlow$Network" "nodes" "I", Cond.fieldLink RX5 15 "ParametricFlow$Network" "mode" "I", Cond.arrayClass .int, Cond.fieldLink RX5 18 "ParametricFlow$Network" "supply" "[I", Cond.fieldLink RX5 22 "ParametricFlow$Network" "supplySlope" "[I"]
def wsX9_init_r2 : List Cond := [Cond.fieldLink RX5 25 "ParametricFlow$Network" "from" "[I", Cond.fieldLink RX5 28 "ParametricFlow$Network" "to" "[I", Cond.fieldLink RX5 31 "ParametricFlow$Network" "capacity" "[I", Cond.fieldLink RX5 34 "ParametricFlow$Network" "cost" "[I", Cond.fieldLink RX5 37 "ParametricFlow$Network" "slope" "[I", Cond.instanceMethod yX1_init, Cond.code yX1_init cX1_init 1 none, Cond.methodLink RX1 3 objectInit, Cond.classLink RX1 9 RX4, Cond.instantiable RX4 2, Cond.initialized RX4, Cond.fieldLink RX1 12 "ParametricFlow$Curve" "numerators" "LParametricFlow$Longs;", Cond.fieldLink RX1 18 "ParametricFlow$Curve" "denominators" "LParametricFlow$Longs;", Cond.fieldLink RX1 21 "ParametricFlow$Curve" "slopes" "LParametricFlow$Longs;", Cond.classLink RX1 24 RX3, Cond.instantiable RX3 4, Cond.initialized RX3, Cond.fieldLink RX1 27 "ParametricFlow$Curve" "left" "LParametricFlow$Line;", Cond.classLink RX1 31 RJx4a65c, Cond.instantiable RJx4a65c 3, Cond.initialized RJx4a65c, Cond.fieldLink RX1 34 "ParametricFlow$Curve" "rights" "Ljava/util/ArrayList;", Cond.instanceMethod yX4_init, Cond.code yX4_init cX4_init 1 none]
def wsX9_init_r3 : List Cond := [Cond.methodLink RX4 3 objectInit, Cond.arrayClass .long, Cond.fieldLink RX4 9 "ParametricFlow$Longs" "items" "[J", Cond.instanceMethod yX3_init, Cond.code yX3_init cX3_init 1 none, Cond.methodLink RX3 3 objectInit, Cond.fieldLink RX3 9 "ParametricFlow$Line" "q" "J", Cond.methodLink RX1 33 yJx4a65c_init_da8c8, Cond.instanceMethod yJx4a65c_init_da8c8, Cond.code yJx4a65c_init_da8c8 cJx4a65c_init_da8c8 1 none, Cond.fieldLink RJx4a65c 39 "java/util/ArrayList" "DEFAULTCAPACITY_EMPTY_ELEMENTDATA" "[Ljava/lang/Object;", Cond.fieldLink RJx4a65c 9 "java/util/ArrayList" "elementData" "[Ljava/lang/Object;", Cond.methodLink RJx4a65c 1 yJxc12de_init_da8c8, Cond.instanceMethod yJxc12de_init_da8c8, Cond.initialized RJxc12de, Cond.code yJxc12de_init_da8c8 cJxc12de_init_da8c8 1 none, Cond.fieldLink RJxc12de 7 "java/util/AbstractList" "modCount" "I", Cond.methodLink RJxc12de 1 yJxa1e45_init_da8c8, Cond.instanceMethod yJxa1e45_init_da8c8, Cond.initialized RJxa1e45, Cond.code yJxa1e45_init_da8c8 cJxa1e45_init_da8c8 1 none, Cond.methodLink RJxa1e45 1 objectInit, Cond.instanceMethod yX7_init, Cond.code yX7_init cX7_init 1 none]
def wsX9_init_r4 : List Cond := [Cond.methodLink RX7 3 objectInit, Cond.fieldLink RX7 9 "ParametricFlow$Simplex" "q" "J", Cond.classLink RX7 15 RX0, Cond.instantiable RX0 8, Cond.initialized RX0, Cond.fieldLink RX7 18 "ParametricFlow$Simplex" "arcs" "LParametricFlow$Arcs;", Cond.classLink RX7 22 RX8, Cond.instantiable RX8 8, Cond.initialized RX8, Cond.fieldLink RX7 25 "ParametricFlow$Simplex" "tree" "LParametricFlow$Tree;", Cond.classLink RX7 29 RX2, Cond.instantiable RX2 8, Cond.initialized RX2, Cond.fieldLink RX7 32 "ParametricFlow$Simplex" "cycle" "LParametricFlow$Cycle;", Cond.classLink RX7 36 RX4, Cond.fieldLink RX7 39 "ParametricFlow$Simplex" "entered" "LParametricFlow$Longs;", Cond.fieldLink RX7 43 "ParametricFlow$Simplex" "left" "LParametricFlow$Longs;", Cond.classLink RX7 46 RX6, Cond.instantiable RX6 6, Cond.initialized RX6, Cond.fieldLink RX7 49 "ParametricFlow$Simplex" "range" "LParametricFlow$Range;", Cond.instanceMethod yX0_init, Cond.code yX0_init cX0_init 1 none, Cond.methodLink RX0 3 objectInit]
def wsX9_init_r5 : List Cond := [Cond.fieldLink RX0 9 "ParametricFlow$Arcs" "from" "[I", Cond.fieldLink RX0 15 "ParametricFlow$Arcs" "to" "[I", Cond.fieldLink RX0 18 "ParametricFlow$Arcs" "capacity" "[J", Cond.fieldLink RX0 22 "ParametricFlow$Arcs" "cost" "[J", Cond.fieldLink RX0 25 "ParametricFlow$Arcs" "flow" "[J", Cond.fieldLink RX0 28 "ParametricFlow$Arcs" "place" "[I", Cond.instanceMethod yX8_init, Cond.code yX8_init cX8_init 1 none, Cond.methodLink RX8 3 objectInit, Cond.fieldLink RX8 9 "ParametricFlow$Tree" "parent" "[I", Cond.fieldLink RX8 15 "ParametricFlow$Tree" "link" "[I", Cond.fieldLink RX8 18 "ParametricFlow$Tree" "depth" "[I", Cond.fieldLink RX8 21 "ParametricFlow$Tree" "potential" "[J", Cond.fieldLink RX8 25 "ParametricFlow$Tree" "size" "[I", Cond.fieldLink RX8 28 "ParametricFlow$Tree" "order" "[I", Cond.fieldLink RX8 31 "ParametricFlow$Tree" "waiting" "[I", Cond.instanceMethod yX2_init, Cond.code yX2_init cX2_init 1 none, Cond.methodLink RX2 3 objectInit, Cond.instanceMethod yX6_init, Cond.code yX6_init cX6_init 1 none, Cond.methodLink RX6 1 objectInit, Cond.fieldLink RX6 7 "ParametricFlow$Range" "lowerBottom" "J", Cond.fieldLink RX6 13 "ParametricFlow$Range" "upperBottom" "J"]
def wsX9_init : List Cond := .code yX9_init cX9_init 1 none :: ((wsX9_init_r1 ++ (wsX9_init_r2 ++ (wsX9_init_r3 ++ (wsX9_init_r4 ++ wsX9_init_r5)))) ++ wsX50 ++ wsX90 ++ wsX10 ++ wsX70 ++ wsX40 ++ wsX30 ++ wsJx4a65c0 ++ wsX00 ++ wsX80 ++ wsX20 ++ wsX60)
def wsX9_isWithin : List Cond := .code yX9_isWithin cX9_isWithin 3 (some .boolean) :: ([])
def wsX9_forget : List Cond := .code yX9_forget cX9_forget 1 none :: ([.fieldLink RX9 89 "ParametricFlow" "solved" "Z", .fieldLink RX9 21 "ParametricFlow" "curve" "LParametricFlow$Curve;", .fieldLink RX9 197 "ParametricFlow$Curve" "known" "Z"] ++ wsX90 ++ wsX10)
def wsX9_reset_r1 : List Cond := [Cond.fieldLink RX9 14 "ParametricFlow" "net" "LParametricFlow$Network;", Cond.fieldLink RX9 39 "ParametricFlow$Network" "nodes" "I", Cond.methodLink RX9 35 yX9_isWithin, Cond.static yX9_isWithin, Cond.initialized RX9, Cond.code yX9_isWithin cX9_isWithin 3 (some .boolean), Cond.methodLink RX9 43 yX5_clear, Cond.instanceMethod yX5_clear, Cond.selects RX5 yX5_clear yX5_clear, Cond.initialized RX5, Cond.code yX5_clear cX5_clear 2 none, Cond.fieldLink RX5 9 "ParametricFlow$Network" "nodes" "I", Cond.fieldLink RX5 40 "ParametricFlow$Network" "arcs" "I", Cond.fieldLink RX5 15 "ParametricFlow$Network" "mode" "I", Cond.fieldLink RX5 18 "ParametricFlow$Network" "supply" "[I", Cond.fieldLink RX5 22 "ParametricFlow$Network" "supplySlope" "[I", Cond.methodLink RX5 43 yJ7_fill_53178, Cond.static yJ7_fill_53178, Cond.initialized RJ7, Cond.code yJ7_fill_53178 cJ7_fill_53178 4 none, Cond.methodLink RX9 47 yX9_forget, Cond.instanceMethod yX9_forget, Cond.selects RX9 yX9_forget yX9_forget, Cond.code yX9_forget cX9_forget 1 none]
def wsX9_reset_r2 : List Cond := [Cond.fieldLink RX9 89 "ParametricFlow" "solved" "Z", Cond.fieldLink RX9 21 "ParametricFlow" "curve" "LParametricFlow$Curve;", Cond.fieldLink RX9 197 "ParametricFlow$Curve" "known" "Z"]
def wsX9_reset : List Cond := .code yX9_reset cX9_reset 3 (some .int) :: ((wsX9_reset_r1 ++ wsX9_reset_r2) ++ wsX90 ++ wsX50 ++ wsX10)
def wsX9_addArc : List Cond := .code yX9_addArc cX9_addArc 7 (some .int) :: ([.fieldLink RX9 14 "ParametricFlow" "net" "LParametricFlow$Network;", .fieldLink RX9 54 "ParametricFlow$Network" "arcs" "I", .fieldLink RX9 57 "ParametricFlow$Network" "from" "[I", .fieldLink RX9 61 "ParametricFlow$Network" "to" "[I", .fieldLink RX9 64 "ParametricFlow$Network" "capacity" "[I", .fieldLink RX9 67 "ParametricFlow$Network" "cost" "[I", .fieldLink RX9 70 "ParametricFlow$Network" "slope" "[I", .methodLink RX9 50 yX5_hasNode, .instanceMethod yX5_hasNode, .selects RX5 yX5_hasNode yX5_hasNode, .initialized RX5, .code yX5_hasNode cX5_hasNode 2 (some .boolean), .fieldLink RX5 9 "ParametricFlow$Network" "nodes" "I", .methodLink RX9 35 yX9_isWithin, .static yX9_isWithin, .initialized RX9, .code yX9_isWithin cX9_isWithin 3 (some .boolean), .methodLink RX9 47 yX9_forget, .instanceMethod yX9_forget, .selects RX9 yX9_forget yX9_forget, .code yX9_forget cX9_forget 1 none, .fieldLink RX9 89 "ParametricFlow" "solved" "Z", .fieldLink RX9 21 "ParametricFlow" "curve" "LParametricFlow$Curve;", .fieldLink RX9 197 "ParametricFlow$Curve" "known" "Z"] ++ wsX90 ++ wsX50 ++ wsX10)
def wsX9_removeArc : List Cond := .code yX9_removeArc cX9_removeArc 1 (some .int) :: ([.fieldLink RX9 14 "ParametricFlow" "net" "LParametricFlow$Network;", .fieldLink RX9 54 "ParametricFlow$Network" "arcs" "I", .methodLink RX9 47 yX9_forget, .instanceMethod yX9_forget, .selects RX9 yX9_forget yX9_forget, .initialized RX9, .code yX9_forget cX9_forget 1 none, .fieldLink RX9 89 "ParametricFlow" "solved" "Z", .fieldLink RX9 21 "ParametricFlow" "curve" "LParametricFlow$Curve;", .fieldLink RX9 197 "ParametricFlow$Curve" "known" "Z"] ++ wsX90 ++ wsX50 ++ wsX10)
def wsX9_setArc : List Cond := .code yX9_setArc cX9_setArc 5 (some .int) :: ([.fieldLink RX9 14 "ParametricFlow" "net" "LParametricFlow$Network;", .fieldLink RX9 64 "ParametricFlow$Network" "capacity" "[I", .fieldLink RX9 67 "ParametricFlow$Network" "cost" "[I", .fieldLink RX9 70 "ParametricFlow$Network" "slope" "[I", .methodLink RX9 73 yX5_hasArc, .instanceMethod yX5_hasArc, .selects RX5 yX5_hasArc yX5_hasArc, .initialized RX5, .code yX5_hasArc cX5_hasArc 2 (some .boolean), .fieldLink RX5 40 "ParametricFlow$Network" "arcs" "I", .methodLink RX9 35 yX9_isWithin, .static yX9_isWithin, .initialized RX9, .code yX9_isWithin cX9_isWithin 3 (some .boolean), .methodLink RX9 47 yX9_forget, .instanceMethod yX9_forget, .selects RX9 yX9_forget yX9_forget, .code yX9_forget cX9_forget 1 none, .fieldLink RX9 89 "ParametricFlow" "solved" "Z", .fieldLink RX9 21 "ParametricFlow" "curve" "LParametricFlow$Curve;", .fieldLink RX9 197 "ParametricFlow$Curve" "known" "Z"] ++ wsX90 ++ wsX50 ++ wsX10)
def wsX9_setSupply : List Cond := .code yX9_setSupply cX9_setSupply 5 (some .int) :: ([.fieldLink RX9 14 "ParametricFlow" "net" "LParametricFlow$Network;", .fieldLink RX9 76 "ParametricFlow$Network" "supply" "[I", .fieldLink RX9 79 "ParametricFlow$Network" "supplySlope" "[I", .methodLink RX9 50 yX5_hasNode, .instanceMethod yX5_hasNode, .selects RX5 yX5_hasNode yX5_hasNode, .initialized RX5, .code yX5_hasNode cX5_hasNode 2 (some .boolean), .fieldLink RX5 9 "ParametricFlow$Network" "nodes" "I", .methodLink RX9 35 yX9_isWithin, .static yX9_isWithin, .initialized RX9, .code yX9_isWithin cX9_isWithin 3 (some .boolean), .methodLink RX9 47 yX9_forget, .instanceMethod yX9_forget, .selects RX9 yX9_forget yX9_forget, .code yX9_forget cX9_forget 1 none, .fieldLink RX9 89 "ParametricFlow" "solved" "Z", .fieldLink RX9 21 "ParametricFlow" "curve" "LParametricFlow$Curve;", .fieldLink RX9 197 "ParametricFlow$Curve" "known" "Z"] ++ wsX90 ++ wsX50 ++ wsX10)
def wsX9_setMode : List Cond := .code yX9_setMode cX9_setMode 3 (some .int) :: ([.fieldLink RX9 14 "ParametricFlow" "net" "LParametricFlow$Network;", .fieldLink RX9 82 "ParametricFlow$Network" "mode" "I", .methodLink RX9 47 yX9_forget, .instanceMethod yX9_forget, .selects RX9 yX9_forget yX9_forget, .initialized RX9, .code yX9_forget cX9_forget 1 none, .fieldLink RX9 89 "ParametricFlow" "solved" "Z", .fieldLink RX9 21 "ParametricFlow" "curve" "LParametricFlow$Curve;", .fieldLink RX9 197 "ParametricFlow$Curve" "known" "Z"] ++ wsX90 ++ wsX50 ++ wsX10)
def wsX9_arc : List Cond := .code yX9_arc cX9_arc 3 (some .int) :: ([.fieldLink RX9 14 "ParametricFlow" "net" "LParametricFlow$Network;", .fieldLink RX9 57 "ParametricFlow$Network" "from" "[I", .fieldLink RX9 61 "ParametricFlow$Network" "to" "[I", .fieldLink RX9 64 "ParametricFlow$Network" "capacity" "[I", .fieldLink RX9 67 "ParametricFlow$Network" "cost" "[I", .fieldLink RX9 70 "ParametricFlow$Network" "slope" "[I", .methodLink RX9 73 yX5_hasArc, .instanceMethod yX5_hasArc, .selects RX5 yX5_hasArc yX5_hasArc, .initialized RX5, .code yX5_hasArc cX5_hasArc 2 (some .boolean), .fieldLink RX5 40 "ParametricFlow$Network" "arcs" "I"] ++ wsX90 ++ wsX50)
def wsX9_network : List Cond := .code yX9_network cX9_network 2 (some .int) :: ([.fieldLink RX9 14 "ParametricFlow" "net" "LParametricFlow$Network;", .fieldLink RX9 39 "ParametricFlow$Network" "nodes" "I", .fieldLink RX9 54 "ParametricFlow$Network" "arcs" "I", .fieldLink RX9 82 "ParametricFlow$Network" "mode" "I", .fieldLink RX9 76 "ParametricFlow$Network" "supply" "[I", .fieldLink RX9 79 "ParametricFlow$Network" "supplySlope" "[I", .fieldLink RX9 89 "ParametricFlow" "solved" "Z", .methodLink RX9 85 yX5_sumOf, .instanceMethod yX5_sumOf, .selects RX5 yX5_sumOf yX5_sumOf, .initialized RX5, .code yX5_sumOf cX5_sumOf 4 (some .int), .fieldLink RX5 9 "ParametricFlow$Network" "nodes" "I"] ++ wsX90 ++ wsX50)
def wsX9_isParameter : List Cond := .code yX9_isParameter cX9_isParameter 2 (some .boolean) :: ([.methodLink RX9 35 yX9_isWithin, .static yX9_isWithin, .initialized RX9, .code yX9_isWithin cX9_isWithin 3 (some .boolean)])
def wsX9_solve_r1 : List Cond := [Cond.fieldLink RX9 32 "ParametricFlow" "work" "LParametricFlow$Simplex;", Cond.fieldLink RX9 14 "ParametricFlow" "net" "LParametricFlow$Network;", Cond.fieldLink RX9 101 "ParametricFlow$Simplex" "tree" "LParametricFlow$Tree;", Cond.fieldLink RX9 28 "ParametricFlow" "kept" "LParametricFlow$Simplex;", Cond.fieldLink RX9 89 "ParametricFlow" "solved" "Z", Cond.fieldLink RX9 110 "ParametricFlow$Simplex" "entered" "LParametricFlow$Longs;", Cond.fieldLink RX9 114 "ParametricFlow$Longs" "size" "I", Cond.methodLink RX9 93 yX9_isParameter, Cond.static yX9_isParameter, Cond.initialized RX9, Cond.code yX9_isParameter cX9_isParameter 2 (some .boolean), Cond.methodLink RX9 35 yX9_isWithin, Cond.static yX9_isWithin, Cond.code yX9_isWithin cX9_isWithin 3 (some .boolean), Cond.methodLink RX9 97 yX7_run, Cond.instanceMethod yX7_run, Cond.selects RX7 yX7_run yX7_run, Cond.initialized RX7, Cond.code yX7_run cX7_run 8 (some .int), Cond.fieldLink RX7 53 "ParametricFlow$Network" "mode" "I", Cond.fieldLink RX7 59 "ParametricFlow$Simplex" "mode" "I", Cond.fieldLink RX7 60 "ParametricFlow$Simplex" "p" "J", Cond.fieldLink RX7 9 "ParametricFlow$Simplex" "q" "J", Cond.fieldLink RX7 39 "ParametricFlow$Simplex" "entered" "LParametricFlow$Longs;"]
def wsX9_solve_r2 : List Cond := [Cond.fieldLink RX7 43 "ParametricFlow$Simplex" "left" "LParametricFlow$Longs;", Cond.fieldLink RX7 18 "ParametricFlow$Simplex" "arcs" "LParametricFlow$Arcs;", Cond.fieldLink RX7 25 "ParametricFlow$Simplex" "tree" "LParametricFlow$Tree;", Cond.constant RX7 78 (1000000), Cond.fieldLink RX7 32 "ParametricFlow$Simplex" "cycle" "LParametricFlow$Cycle;", Cond.methodLink RX7 63 yX4_clear, Cond.instanceMethod yX4_clear, Cond.selects RX4 yX4_clear yX4_clear, Cond.initialized RX4, Cond.code yX4_clear cX4_clear 1 none, Cond.fieldLink RX4 15 "ParametricFlow$Longs" "size" "I", Cond.methodLink RX7 66 yX5_isBalanced, Cond.instanceMethod yX5_isBalanced, Cond.selects RX5 yX5_isBalanced yX5_isBalanced, Cond.initialized RX5, Cond.code yX5_isBalanced cX5_isBalanced 8 (some .boolean), Cond.fieldLink RX5 9 "ParametricFlow$Network" "nodes" "I", Cond.methodLink RX5 49 yX5_scaledSupply, Cond.instanceMethod yX5_scaledSupply, Cond.selects RX5 yX5_scaledSupply yX5_scaledSupply, Cond.code yX5_scaledSupply cX5_scaledSupply 6 (some .long), Cond.fieldLink RX5 15 "ParametricFlow$Network" "mode" "I", Cond.fieldLink RX5 18 "ParametricFlow$Network" "supply" "[I", Cond.fieldLink RX5 22 "ParametricFlow$Network" "supplySlope" "[I"]
def wsX9_solve_r3 : List Cond := [Cond.methodLink RX7 70 yX0_load, Cond.instanceMethod yX0_load, Cond.selects RX0 yX0_load yX0_load, Cond.initialized RX0, Cond.code yX0_load cX0_load 9 none, Cond.fieldLink RX0 31 "ParametricFlow$Network" "nodes" "I", Cond.fieldLink RX0 37 "ParametricFlow$Arcs" "nodes" "I", Cond.fieldLink RX0 38 "ParametricFlow$Network" "arcs" "I", Cond.fieldLink RX0 41 "ParametricFlow$Arcs" "count" "I", Cond.fieldLink RX0 9 "ParametricFlow$Arcs" "from" "[I", Cond.fieldLink RX0 44 "ParametricFlow$Network" "from" "[I", Cond.fieldLink RX0 15 "ParametricFlow$Arcs" "to" "[I", Cond.fieldLink RX0 45 "ParametricFlow$Network" "to" "[I", Cond.fieldLink RX0 18 "ParametricFlow$Arcs" "capacity" "[J", Cond.fieldLink RX0 22 "ParametricFlow$Arcs" "cost" "[J", Cond.fieldLink RX0 25 "ParametricFlow$Arcs" "flow" "[J", Cond.fieldLink RX0 28 "ParametricFlow$Arcs" "place" "[I", Cond.methodLink RX0 54 Lib.MathLoose.abs_long.x, Cond.static Lib.MathLoose.abs_long.x, Cond.initialized "java/lang/Math", Cond.code Lib.MathLoose.abs_long.x Lib.MathLoose.abs_long.code 2 (some .long), Cond.methodLink RX0 60 Lib.MathLoose.max_long.x, Cond.static Lib.MathLoose.max_long.x, Cond.code Lib.MathLoose.max_long.x Lib.MathLoose.max_long.code 4 (some .long)]
def wsX9_solve_r4 : List Cond := [Cond.methodLink RX0 46 yX5_scaledCapacity, Cond.instanceMethod yX5_scaledCapacity, Cond.selects RX5 yX5_scaledCapacity yX5_scaledCapacity, Cond.code yX5_scaledCapacity cX5_scaledCapacity 4 (some .long), Cond.fieldLink RX5 31 "ParametricFlow$Network" "capacity" "[I", Cond.methodLink RX0 50 yX5_scaledCost, Cond.instanceMethod yX5_scaledCost, Cond.selects RX5 yX5_scaledCost yX5_scaledCost, Cond.code yX5_scaledCost cX5_scaledCost 6 (some .long), Cond.fieldLink RX5 34 "ParametricFlow$Network" "cost" "[I", Cond.fieldLink RX5 37 "ParametricFlow$Network" "slope" "[I", Cond.methodLink RX0 64 yX5_scaledSupply, Cond.methodLink RX0 67 yX0_loadArtificial, Cond.instanceMethod yX0_loadArtificial, Cond.selects RX0 yX0_loadArtificial yX0_loadArtificial, Cond.code yX0_loadArtificial cX0_loadArtificial 7 none, Cond.constantLong RX0 71 (1152921504606846976), Cond.methodLink RX7 74 yX8_plant, Cond.instanceMethod yX8_plant, Cond.selects RX8 yX8_plant yX8_plant, Cond.initialized RX8, Cond.code yX8_plant cX8_plant 3 none, Cond.fieldLink RX8 34 "ParametricFlow$Arcs" "nodes" "I", Cond.fieldLink RX8 40 "ParametricFlow$Tree" "root" "I"]
def wsX9_solve_r5 : List Cond := [Cond.fieldLink RX8 9 "ParametricFlow$Tree" "parent" "[I", Cond.fieldLink RX8 18 "ParametricFlow$Tree" "depth" "[I", Cond.fieldLink RX8 21 "ParametricFlow$Tree" "potential" "[J", Cond.fieldLink RX8 15 "ParametricFlow$Tree" "link" "[I", Cond.methodLink RX7 79 yX8_measure, Cond.instanceMethod yX8_measure, Cond.selects RX8 yX8_measure yX8_measure, Cond.code yX8_measure cX8_measure 8 none, Cond.fieldLink RX8 43 "ParametricFlow$Arcs" "from" "[I", Cond.fieldLink RX8 46 "ParametricFlow$Arcs" "cost" "[J", Cond.methodLink RX7 82 yX7_entering, Cond.instanceMethod yX7_entering, Cond.selects RX7 yX7_entering yX7_entering, Cond.code yX7_entering cX7_entering 7 (some .int), Cond.fieldLink RX7 120 "ParametricFlow$Arcs" "count" "I", Cond.fieldLink RX7 123 "ParametricFlow$Arcs" "place" "[I", Cond.methodLink RX7 126 yX7_reduced, Cond.instanceMethod yX7_reduced, Cond.selects RX7 yX7_reduced yX7_reduced, Cond.code yX7_reduced cX7_reduced 2 (some .long), Cond.fieldLink RX7 106 "ParametricFlow$Arcs" "cost" "[J", Cond.fieldLink RX7 110 "ParametricFlow$Tree" "potential" "[J", Cond.fieldLink RX7 113 "ParametricFlow$Arcs" "from" "[I", Cond.fieldLink RX7 117 "ParametricFlow$Arcs" "to" "[I"]
def wsX9_solve_r6 : List Cond := [Cond.methodLink RX7 86 yX2_close, Cond.instanceMethod yX2_close, Cond.selects RX2 yX2_close yX2_close, Cond.initialized RX2, Cond.code yX2_close cX2_close 8 none, Cond.fieldLink RX2 9 "ParametricFlow$Cycle" "row" "I", Cond.fieldLink RX2 15 "ParametricFlow$Arcs" "place" "[I", Cond.fieldLink RX2 21 "ParametricFlow$Cycle" "along" "Z", Cond.fieldLink RX2 25 "ParametricFlow$Arcs" "from" "[I", Cond.fieldLink RX2 28 "ParametricFlow$Arcs" "to" "[I", Cond.fieldLink RX2 31 "ParametricFlow$Cycle" "tail" "I", Cond.fieldLink RX2 34 "ParametricFlow$Cycle" "head" "I", Cond.fieldLink RX2 43 "ParametricFlow$Cycle" "apex" "I", Cond.fieldLink RX2 49 "ParametricFlow$Cycle" "least" "J", Cond.fieldLink RX2 53 "ParametricFlow$Cycle" "cut" "I", Cond.fieldLink RX2 56 "ParametricFlow$Cycle" "cutAhead" "Z", Cond.fieldLink RX2 59 "ParametricFlow$Tree" "link" "[I", Cond.fieldLink RX2 66 "ParametricFlow$Tree" "parent" "[I", Cond.methodLink RX2 37 yX8_apex, Cond.instanceMethod yX8_apex, Cond.selects RX8 yX8_apex yX8_apex, Cond.code yX8_apex cX8_apex 6 (some .int), Cond.methodLink RX2 45 yX0_room, Cond.instanceMethod yX0_room]
def wsX9_solve_r7 : List Cond := [Cond.selects RX0 yX0_room yX0_room, Cond.code yX0_room cX0_room 3 (some .long), Cond.methodLink RX2 62 yX8_leadsUp, Cond.instanceMethod yX8_leadsUp, Cond.selects RX8 yX8_leadsUp yX8_leadsUp, Cond.code yX8_leadsUp cX8_leadsUp 3 (some .boolean), Cond.methodLink RX7 90 yX2_push, Cond.instanceMethod yX2_push, Cond.selects RX2 yX2_push yX2_push, Cond.code yX2_push cX2_push 5 none, Cond.methodLink RX2 69 yX0_push, Cond.instanceMethod yX0_push, Cond.selects RX0 yX0_push yX0_push, Cond.code yX0_push cX0_push 5 none, Cond.methodLink RX7 94 yX4_add, Cond.instanceMethod yX4_add, Cond.selects RX4 yX4_add yX4_add, Cond.code yX4_add cX4_add 3 none, Cond.fieldLink RX4 9 "ParametricFlow$Longs" "items" "[J", Cond.constant RX4 19 (1000000), Cond.methodLink RX4 20 yJ7_copyOf_c38d5, Cond.static yJ7_copyOf_c38d5, Cond.initialized RJ7, Cond.code yJ7_copyOf_c38d5 cJ7_copyOf_c38d5 3 (some (.array .long))]
def wsX9_solve_r8 : List Cond := [Cond.methodLink RJ7 319 ⟨"[J", "clone", "()Ljava/lang/Object;"⟩, Cond.sameMethod "[J" "java/lang/Object" "clone" "()Ljava/lang/Object;", Cond.native ⟨"java/lang/Object", "clone", "()Ljava/lang/Object;"⟩, Cond.instanceMethod ⟨"java/lang/Object", "clone", "()Ljava/lang/Object;"⟩, Cond.selects "[J" ⟨"[J", "clone", "()Ljava/lang/Object;"⟩ ⟨"java/lang/Object", "clone", "()Ljava/lang/Object;"⟩, Cond.classLink RJ7 320 "[J", Cond.arrayClass .long, Cond.methodLink RJ7 304 Lib.Math.min.name, Cond.static Lib.Math.min.name, Cond.code Lib.Math.min.name Lib.Math.min.code 2 (some .int), Cond.methodLink RJ7 150 arraycopyName, Cond.native arraycopyName, Cond.static arraycopyName, Cond.initialized "java/lang/System", Cond.methodLink RX7 98 yX2_exchange, Cond.instanceMethod yX2_exchange, Cond.selects RX2 yX2_exchange yX2_exchange, Cond.code yX2_exchange cX2_exchange 4 (some .int), Cond.methodLink RX2 73 yX0_putAtBound, Cond.instanceMethod yX0_putAtBound, Cond.selects RX0 yX0_putAtBound yX0_putAtBound, Cond.code yX0_putAtBound cX0_putAtBound 2 none, Cond.methodLink RX2 77 yX8_rehang, Cond.instanceMethod yX8_rehang]
def wsX9_solve_r9 : List Cond := [Cond.selects RX8 yX8_rehang yX8_rehang, Cond.code yX8_rehang cX8_rehang 11 none, Cond.methodLink RX7 102 yX0_hasArtificialFlow, Cond.instanceMethod yX0_hasArtificialFlow, Cond.selects RX0 yX0_hasArtificialFlow yX0_hasArtificialFlow, Cond.code yX0_hasArtificialFlow cX0_hasArtificialFlow 2 (some .boolean), Cond.methodLink RX9 105 yX8_putInOrder, Cond.instanceMethod yX8_putInOrder, Cond.selects RX8 yX8_putInOrder yX8_putInOrder, Cond.code yX8_putInOrder cX8_putInOrder 5 none, Cond.fieldLink RX8 31 "ParametricFlow$Tree" "waiting" "[I", Cond.fieldLink RX8 28 "ParametricFlow$Tree" "order" "[I", Cond.fieldLink RX8 25 "ParametricFlow$Tree" "size" "[I", Cond.methodLink RX8 49 yJ7_fill_53178, Cond.static yJ7_fill_53178, Cond.code yJ7_fill_53178 cJ7_fill_53178 4 none]
def wsX9_solve : List Cond := .code yX9_solve cX9_solve 5 (some .int) :: ((wsX9_solve_r1 ++ (wsX9_solve_r2 ++ (wsX9_solve_r3 ++ (wsX9_solve_r4 ++ (wsX9_solve_r5 ++ (wsX9_solve_r6 ++ (wsX9_solve_r7 ++ (wsX9_solve_r8 ++ wsX9_solve_r9)))))))) ++ wsX90 ++ wsX70 ++ wsX40 ++ wsX50 ++ wsX00 ++ wsX80 ++ wsX20)
def wsX9_pivot : List Cond := .code yX9_pivot cX9_pivot 3 (some .int) :: ([.fieldLink RX9 89 "ParametricFlow" "solved" "Z", .fieldLink RX9 28 "ParametricFlow" "kept" "LParametricFlow$Simplex;", .fieldLink RX9 110 "ParametricFlow$Simplex" "entered" "LParametricFlow$Longs;", .fieldLink RX9 114 "ParametricFlow$Longs" "size" "I", .fieldLink RX9 119 "ParametricFlow$Simplex" "left" "LParametricFlow$Longs;", .methodLink RX9 122 yX4_at, .instanceMethod yX4_at, .selects RX4 yX4_at yX4_at, .initialized RX4, .code yX4_at cX4_at 2 (some .long), .fieldLink RX4 15 "ParametricFlow$Longs" "size" "I", .fieldLink RX4 9 "ParametricFlow$Longs" "items" "[J", .constantLong RX4 26 (-9223372036854775808), .methodLink RX9 126 yX9_nameOf, .static yX9_nameOf, .initialized RX9, .code yX9_nameOf cX9_nameOf 2 (some .int), .constantLong RX9 200 (20), .constantLong RX9 202 (100)] ++ wsX90 ++ wsX70 ++ wsX40)
def wsX9_objective : List Cond := .code yX9_objective cX9_objective 2 (some .long) :: ([.fieldLink RX9 89 "ParametricFlow" "solved" "Z", .fieldLink RX9 28 "ParametricFlow" "kept" "LParametricFlow$Simplex;", .fieldLink RX9 130 "ParametricFlow$Simplex" "arcs" "LParametricFlow$Arcs;", .fieldLink RX9 139 "ParametricFlow$Simplex" "q" "J", .constantLong RX9 147 (-9223372036854775808), .methodLink RX9 133 yX0_totalCost, .instanceMethod yX0_totalCost, .selects RX0 yX0_totalCost yX0_totalCost, .initialized RX0, .code yX0_totalCost cX0_totalCost 4 (some .long), .fieldLink RX0 41 "ParametricFlow$Arcs" "count" "I", .fieldLink RX0 25 "ParametricFlow$Arcs" "flow" "[J", .fieldLink RX0 22 "ParametricFlow$Arcs" "cost" "[J", .methodLink RX9 143 yX9_lowestTerms, .static yX9_lowestTerms, .initialized RX9, .code yX9_lowestTerms cX9_lowestTerms 7 (some .long), .methodLink RX9 204 yX9_commonDivisor, .static yX9_commonDivisor, .code yX9_commonDivisor cX9_commonDivisor 11 (some .long), .methodLink RX9 208 Lib.MathLoose.abs_long.x, .static Lib.MathLoose.abs_long.x, .initialized "java/lang/Math", .code Lib.MathLoose.abs_long.x Lib.MathLoose.abs_long.code 2 (some .long)] ++ wsX90 ++ wsX70 ++ wsX00)
def wsX9_flow_r1 : List Cond := [Cond.fieldLink RX9 14 "ParametricFlow" "net" "LParametricFlow$Network;", Cond.fieldLink RX9 89 "ParametricFlow" "solved" "Z", Cond.constantLong RX9 147 (-9223372036854775808), Cond.fieldLink RX9 28 "ParametricFlow" "kept" "LParametricFlow$Simplex;", Cond.fieldLink RX9 130 "ParametricFlow$Simplex" "arcs" "LParametricFlow$Arcs;", Cond.fieldLink RX9 149 "ParametricFlow$Arcs" "flow" "[J", Cond.fieldLink RX9 153 "ParametricFlow$Simplex" "mode" "I", Cond.fieldLink RX9 139 "ParametricFlow$Simplex" "q" "J", Cond.methodLink RX9 73 yX5_hasArc, Cond.instanceMethod yX5_hasArc, Cond.selects RX5 yX5_hasArc yX5_hasArc, Cond.initialized RX5, Cond.code yX5_hasArc cX5_hasArc 2 (some .boolean), Cond.fieldLink RX5 40 "ParametricFlow$Network" "arcs" "I", Cond.methodLink RX9 143 yX9_lowestTerms, Cond.static yX9_lowestTerms, Cond.initialized RX9, Cond.code yX9_lowestTerms cX9_lowestTerms 7 (some .long), Cond.methodLink RX9 204 yX9_commonDivisor, Cond.static yX9_commonDivisor, Cond.code yX9_commonDivisor cX9_commonDivisor 11 (some .long), Cond.methodLink RX9 208 Lib.MathLoose.abs_long.x, Cond.static Lib.MathLoose.abs_long.x, Cond.initialized "java/lang/Math"]
def wsX9_flow_r2 : List Cond := [Cond.code Lib.MathLoose.abs_long.x Lib.MathLoose.abs_long.code 2 (some .long)]
def wsX9_flow : List Cond := .code yX9_flow cX9_flow 3 (some .long) :: ((wsX9_flow_r1 ++ wsX9_flow_r2) ++ wsX90 ++ wsX70 ++ wsX00 ++ wsX50)
def wsX9_reducedCost : List Cond := .code yX9_reducedCost cX9_reducedCost 2 (some .long) :: ([.fieldLink RX9 14 "ParametricFlow" "net" "LParametricFlow$Network;", .fieldLink RX9 89 "ParametricFlow" "solved" "Z", .fieldLink RX9 28 "ParametricFlow" "kept" "LParametricFlow$Simplex;", .constantLong RX9 147 (-9223372036854775808), .methodLink RX9 73 yX5_hasArc, .instanceMethod yX5_hasArc, .selects RX5 yX5_hasArc yX5_hasArc, .initialized RX5, .code yX5_hasArc cX5_hasArc 2 (some .boolean), .fieldLink RX5 40 "ParametricFlow$Network" "arcs" "I", .methodLink RX9 154 yX7_reduced, .instanceMethod yX7_reduced, .selects RX7 yX7_reduced yX7_reduced, .initialized RX7, .code yX7_reduced cX7_reduced 2 (some .long), .fieldLink RX7 18 "ParametricFlow$Simplex" "arcs" "LParametricFlow$Arcs;", .fieldLink RX7 106 "ParametricFlow$Arcs" "cost" "[J", .fieldLink RX7 25 "ParametricFlow$Simplex" "tree" "LParametricFlow$Tree;", .fieldLink RX7 110 "ParametricFlow$Tree" "potential" "[J", .fieldLink RX7 113 "ParametricFlow$Arcs" "from" "[I", .fieldLink RX7 117 "ParametricFlow$Arcs" "to" "[I"] ++ wsX90 ++ wsX50 ++ wsX70 ++ wsX00 ++ wsX80)
def wsX9_potential : List Cond := .code yX9_potential cX9_potential 2 (some .long) :: ([.fieldLink RX9 14 "ParametricFlow" "net" "LParametricFlow$Network;", .fieldLink RX9 89 "ParametricFlow" "solved" "Z", .fieldLink RX9 28 "ParametricFlow" "kept" "LParametricFlow$Simplex;", .fieldLink RX9 101 "ParametricFlow$Simplex" "tree" "LParametricFlow$Tree;", .fieldLink RX9 157 "ParametricFlow$Tree" "potential" "[J", .constantLong RX9 147 (-9223372036854775808), .methodLink RX9 50 yX5_hasNode, .instanceMethod yX5_hasNode, .selects RX5 yX5_hasNode yX5_hasNode, .initialized RX5, .code yX5_hasNode cX5_hasNode 2 (some .boolean), .fieldLink RX5 9 "ParametricFlow$Network" "nodes" "I"] ++ wsX90 ++ wsX70 ++ wsX80 ++ wsX50)
def wsX9_bound : List Cond := .code yX9_bound cX9_bound 2 (some .int) :: ([.fieldLink RX9 14 "ParametricFlow" "net" "LParametricFlow$Network;", .fieldLink RX9 89 "ParametricFlow" "solved" "Z", .fieldLink RX9 28 "ParametricFlow" "kept" "LParametricFlow$Simplex;", .fieldLink RX9 130 "ParametricFlow$Simplex" "arcs" "LParametricFlow$Arcs;", .fieldLink RX9 160 "ParametricFlow$Arcs" "place" "[I", .methodLink RX9 73 yX5_hasArc, .instanceMethod yX5_hasArc, .selects RX5 yX5_hasArc yX5_hasArc, .initialized RX5, .code yX5_hasArc cX5_hasArc 2 (some .boolean), .fieldLink RX5 40 "ParametricFlow$Network" "arcs" "I"] ++ wsX90 ++ wsX70 ++ wsX00 ++ wsX50)
def wsX9_tree : List Cond := .code yX9_tree cX9_tree 3 (some .int) :: ([.fieldLink RX9 14 "ParametricFlow" "net" "LParametricFlow$Network;", .fieldLink RX9 89 "ParametricFlow" "solved" "Z", .fieldLink RX9 28 "ParametricFlow" "kept" "LParametricFlow$Simplex;", .fieldLink RX9 101 "ParametricFlow$Simplex" "tree" "LParametricFlow$Tree;", .fieldLink RX9 163 "ParametricFlow$Tree" "parent" "[I", .fieldLink RX9 166 "ParametricFlow$Tree" "link" "[I", .fieldLink RX9 169 "ParametricFlow$Tree" "depth" "[I", .fieldLink RX9 172 "ParametricFlow$Tree" "size" "[I", .methodLink RX9 50 yX5_hasNode, .instanceMethod yX5_hasNode, .selects RX5 yX5_hasNode yX5_hasNode, .initialized RX5, .code yX5_hasNode cX5_hasNode 2 (some .boolean), .fieldLink RX5 9 "ParametricFlow$Network" "nodes" "I", .methodLink RX9 126 yX9_nameOf, .static yX9_nameOf, .initialized RX9, .code yX9_nameOf cX9_nameOf 2 (some .int), .constantLong RX9 200 (20), .constantLong RX9 202 (100)] ++ wsX90 ++ wsX70 ++ wsX80 ++ wsX50)
def wsX9_preorder : List Cond := .code yX9_preorder cX9_preorder 2 (some .int) :: ([.fieldLink RX9 89 "ParametricFlow" "solved" "Z", .fieldLink RX9 14 "ParametricFlow" "net" "LParametricFlow$Network;", .fieldLink RX9 39 "ParametricFlow$Network" "nodes" "I", .fieldLink RX9 28 "ParametricFlow" "kept" "LParametricFlow$Simplex;", .fieldLink RX9 101 "ParametricFlow$Simplex" "tree" "LParametricFlow$Tree;", .fieldLink RX9 174 "ParametricFlow$Tree" "order" "[I"] ++ wsX90 ++ wsX50 ++ wsX70 ++ wsX80)
def wsX9_limit_r1 : List Cond := [Cond.fieldLink RX9 89 "ParametricFlow" "solved" "Z", Cond.fieldLink RX9 28 "ParametricFlow" "kept" "LParametricFlow$Simplex;", Cond.fieldLink RX9 14 "ParametricFlow" "net" "LParametricFlow$Network;", Cond.constantLong RX9 147 (-9223372036854775808), Cond.methodLink RX9 177 yX7_end, Cond.instanceMethod yX7_end, Cond.selects RX7 yX7_end yX7_end, Cond.initialized RX7, Cond.code yX7_end cX7_end 8 (some .long), Cond.fieldLink RX7 49 "ParametricFlow$Simplex" "range" "LParametricFlow$Range;", Cond.fieldLink RX7 59 "ParametricFlow$Simplex" "mode" "I", Cond.fieldLink RX7 150 "ParametricFlow$Range" "hasUpper" "Z", Cond.fieldLink RX7 154 "ParametricFlow$Range" "hasLower" "Z", Cond.constantLong RX7 157 (-9223372036854775808), Cond.fieldLink RX7 159 "ParametricFlow$Range" "upperTop" "J", Cond.fieldLink RX7 162 "ParametricFlow$Range" "lowerTop" "J", Cond.fieldLink RX7 165 "ParametricFlow$Range" "upperBottom" "J", Cond.fieldLink RX7 168 "ParametricFlow$Range" "lowerBottom" "J", Cond.fieldLink RX7 60 "ParametricFlow$Simplex" "p" "J", Cond.fieldLink RX7 9 "ParametricFlow$Simplex" "q" "J", Cond.methodLink RX7 142 yX6_clear, Cond.instanceMethod yX6_clear, Cond.selects RX6 yX6_clear yX6_clear, Cond.initialized RX6]
def wsX9_limit_r2 : List Cond := [Cond.code yX6_clear cX6_clear 1 none, Cond.fieldLink RX6 16 "ParametricFlow$Range" "hasLower" "Z", Cond.fieldLink RX6 20 "ParametricFlow$Range" "hasUpper" "Z", Cond.methodLink RX7 143 yX7_limitByCosts, Cond.instanceMethod yX7_limitByCosts, Cond.selects RX7 yX7_limitByCosts yX7_limitByCosts, Cond.code yX7_limitByCosts cX7_limitByCosts 6 none, Cond.fieldLink RX7 18 "ParametricFlow$Simplex" "arcs" "LParametricFlow$Arcs;", Cond.fieldLink RX7 120 "ParametricFlow$Arcs" "count" "I", Cond.fieldLink RX7 123 "ParametricFlow$Arcs" "place" "[I", Cond.fieldLink RX7 133 "ParametricFlow$Network" "slope" "[I", Cond.fieldLink RX7 113 "ParametricFlow$Arcs" "from" "[I", Cond.fieldLink RX7 117 "ParametricFlow$Arcs" "to" "[I", Cond.methodLink RX7 175 yX7_slopeTo, Cond.instanceMethod yX7_slopeTo, Cond.selects RX7 yX7_slopeTo yX7_slopeTo, Cond.code yX7_slopeTo cX7_slopeTo 8 (some .long), Cond.fieldLink RX7 25 "ParametricFlow$Simplex" "tree" "LParametricFlow$Tree;", Cond.fieldLink RX7 183 "ParametricFlow$Tree" "root" "I", Cond.fieldLink RX7 186 "ParametricFlow$Tree" "link" "[I", Cond.fieldLink RX7 193 "ParametricFlow$Tree" "parent" "[I", Cond.methodLink RX7 189 yX8_leadsUp, Cond.instanceMethod yX8_leadsUp, Cond.selects RX8 yX8_leadsUp yX8_leadsUp]
def wsX9_limit_r3 : List Cond := [Cond.initialized RX8, Cond.code yX8_leadsUp cX8_leadsUp 3 (some .boolean), Cond.fieldLink RX8 43 "ParametricFlow$Arcs" "from" "[I", Cond.fieldLink RX8 15 "ParametricFlow$Tree" "link" "[I", Cond.methodLink RX7 126 yX7_reduced, Cond.instanceMethod yX7_reduced, Cond.selects RX7 yX7_reduced yX7_reduced, Cond.code yX7_reduced cX7_reduced 2 (some .long), Cond.fieldLink RX7 106 "ParametricFlow$Arcs" "cost" "[J", Cond.fieldLink RX7 110 "ParametricFlow$Tree" "potential" "[J", Cond.methodLink RX7 179 yX6_keep, Cond.instanceMethod yX6_keep, Cond.selects RX6 yX6_keep yX6_keep, Cond.code yX6_keep cX6_keep 5 none, Cond.fieldLink RX6 7 "ParametricFlow$Range" "lowerBottom" "J", Cond.fieldLink RX6 23 "ParametricFlow$Range" "lowerTop" "J", Cond.fieldLink RX6 13 "ParametricFlow$Range" "upperBottom" "J", Cond.fieldLink RX6 26 "ParametricFlow$Range" "upperTop" "J", Cond.methodLink RX7 147 yX7_limitByFlows, Cond.instanceMethod yX7_limitByFlows, Cond.selects RX7 yX7_limitByFlows yX7_limitByFlows, Cond.code yX7_limitByFlows cX7_limitByFlows 8 none, Cond.fieldLink RX7 136 "ParametricFlow$Arcs" "nodes" "I", Cond.fieldLink RX7 130 "ParametricFlow$Arcs" "flow" "[J"]
def wsX9_limit_r4 : List Cond := [Cond.fieldLink RX7 199 "ParametricFlow$Arcs" "capacity" "[J", Cond.methodLink RX7 196 yX7_slopeBelow, Cond.instanceMethod yX7_slopeBelow, Cond.selects RX7 yX7_slopeBelow yX7_slopeBelow, Cond.code yX7_slopeBelow cX7_slopeBelow 6 (some .long), Cond.fieldLink RX7 139 "ParametricFlow$Network" "supplySlope" "[I", Cond.methodLink RX7 202 yX8_isBelow, Cond.instanceMethod yX8_isBelow, Cond.selects RX8 yX8_isBelow yX8_isBelow, Cond.code yX8_isBelow cX8_isBelow 5 (some .boolean), Cond.fieldLink RX8 40 "ParametricFlow$Tree" "root" "I", Cond.fieldLink RX8 9 "ParametricFlow$Tree" "parent" "[I", Cond.static yX9_lowestTerms, Cond.initialized RX9, Cond.code yX9_lowestTerms cX9_lowestTerms 7 (some .long), Cond.methodLink RX9 204 yX9_commonDivisor, Cond.static yX9_commonDivisor, Cond.code yX9_commonDivisor cX9_commonDivisor 11 (some .long), Cond.methodLink RX9 208 Lib.MathLoose.abs_long.x, Cond.static Lib.MathLoose.abs_long.x, Cond.initialized "java/lang/Math", Cond.code Lib.MathLoose.abs_long.x Lib.MathLoose.abs_long.code 2 (some .long)]
def wsX9_limit : List Cond := .code yX9_limit cX9_limit 3 (some .long) :: ((wsX9_limit_r1 ++ (wsX9_limit_r2 ++ (wsX9_limit_r3 ++ wsX9_limit_r4))) ++ wsX90 ++ wsX70 ++ wsX60 ++ wsX00 ++ wsX50 ++ wsX80)
def wsX9_value_r1 : List Cond := [Cond.fieldLink RX9 32 "ParametricFlow" "work" "LParametricFlow$Simplex;", Cond.fieldLink RX9 14 "ParametricFlow" "net" "LParametricFlow$Network;", Cond.constantLong RX9 147 (-9223372036854775808), Cond.fieldLink RX9 130 "ParametricFlow$Simplex" "arcs" "LParametricFlow$Arcs;", Cond.methodLink RX9 93 yX9_isParameter, Cond.static yX9_isParameter, Cond.initialized RX9, Cond.code yX9_isParameter cX9_isParameter 2 (some .boolean), Cond.methodLink RX9 35 yX9_isWithin, Cond.static yX9_isWithin, Cond.code yX9_isWithin cX9_isWithin 3 (some .boolean), Cond.methodLink RX9 97 yX7_run, Cond.instanceMethod yX7_run, Cond.selects RX7 yX7_run yX7_run, Cond.initialized RX7, Cond.code yX7_run cX7_run 8 (some .int), Cond.fieldLink RX7 53 "ParametricFlow$Network" "mode" "I", Cond.fieldLink RX7 59 "ParametricFlow$Simplex" "mode" "I", Cond.fieldLink RX7 60 "ParametricFlow$Simplex" "p" "J", Cond.fieldLink RX7 9 "ParametricFlow$Simplex" "q" "J", Cond.fieldLink RX7 39 "ParametricFlow$Simplex" "entered" "LParametricFlow$Longs;", Cond.fieldLink RX7 43 "ParametricFlow$Simplex" "left" "LParametricFlow$Longs;", Cond.fieldLink RX7 18 "ParametricFlow$Simplex" "arcs" "LParametricFlow$Arcs;", Cond.fieldLink RX7 25 "ParametricFlow$Simplex" "tree" "LParametricFlow$Tree;"]
def wsX9_value_r2 : List Cond := [Cond.constant RX7 78 (1000000), Cond.fieldLink RX7 32 "ParametricFlow$Simplex" "cycle" "LParametricFlow$Cycle;", Cond.methodLink RX7 63 yX4_clear, Cond.instanceMethod yX4_clear, Cond.selects RX4 yX4_clear yX4_clear, Cond.initialized RX4, Cond.code yX4_clear cX4_clear 1 none, Cond.fieldLink RX4 15 "ParametricFlow$Longs" "size" "I", Cond.methodLink RX7 66 yX5_isBalanced, Cond.instanceMethod yX5_isBalanced, Cond.selects RX5 yX5_isBalanced yX5_isBalanced, Cond.initialized RX5, Cond.code yX5_isBalanced cX5_isBalanced 8 (some .boolean), Cond.fieldLink RX5 9 "ParametricFlow$Network" "nodes" "I", Cond.methodLink RX5 49 yX5_scaledSupply, Cond.instanceMethod yX5_scaledSupply, Cond.selects RX5 yX5_scaledSupply yX5_scaledSupply, Cond.code yX5_scaledSupply cX5_scaledSupply 6 (some .long), Cond.fieldLink RX5 15 "ParametricFlow$Network" "mode" "I", Cond.fieldLink RX5 18 "ParametricFlow$Network" "supply" "[I", Cond.fieldLink RX5 22 "ParametricFlow$Network" "supplySlope" "[I", Cond.methodLink RX7 70 yX0_load, Cond.instanceMethod yX0_load, Cond.selects RX0 yX0_load yX0_load]
def wsX9_value_r3 : List Cond := [Cond.initialized RX0, Cond.code yX0_load cX0_load 9 none, Cond.fieldLink RX0 31 "ParametricFlow$Network" "nodes" "I", Cond.fieldLink RX0 37 "ParametricFlow$Arcs" "nodes" "I", Cond.fieldLink RX0 38 "ParametricFlow$Network" "arcs" "I", Cond.fieldLink RX0 41 "ParametricFlow$Arcs" "count" "I", Cond.fieldLink RX0 9 "ParametricFlow$Arcs" "from" "[I", Cond.fieldLink RX0 44 "ParametricFlow$Network" "from" "[I", Cond.fieldLink RX0 15 "ParametricFlow$Arcs" "to" "[I", Cond.fieldLink RX0 45 "ParametricFlow$Network" "to" "[I", Cond.fieldLink RX0 18 "ParametricFlow$Arcs" "capacity" "[J", Cond.fieldLink RX0 22 "ParametricFlow$Arcs" "cost" "[J", Cond.fieldLink RX0 25 "ParametricFlow$Arcs" "flow" "[J", Cond.fieldLink RX0 28 "ParametricFlow$Arcs" "place" "[I", Cond.methodLink RX0 54 Lib.MathLoose.abs_long.x, Cond.static Lib.MathLoose.abs_long.x, Cond.initialized "java/lang/Math", Cond.code Lib.MathLoose.abs_long.x Lib.MathLoose.abs_long.code 2 (some .long), Cond.methodLink RX0 60 Lib.MathLoose.max_long.x, Cond.static Lib.MathLoose.max_long.x, Cond.code Lib.MathLoose.max_long.x Lib.MathLoose.max_long.code 4 (some .long), Cond.methodLink RX0 46 yX5_scaledCapacity, Cond.instanceMethod yX5_scaledCapacity, Cond.selects RX5 yX5_scaledCapacity yX5_scaledCapacity]
def wsX9_value_r4 : List Cond := [Cond.code yX5_scaledCapacity cX5_scaledCapacity 4 (some .long), Cond.fieldLink RX5 31 "ParametricFlow$Network" "capacity" "[I", Cond.methodLink RX0 50 yX5_scaledCost, Cond.instanceMethod yX5_scaledCost, Cond.selects RX5 yX5_scaledCost yX5_scaledCost, Cond.code yX5_scaledCost cX5_scaledCost 6 (some .long), Cond.fieldLink RX5 34 "ParametricFlow$Network" "cost" "[I", Cond.fieldLink RX5 37 "ParametricFlow$Network" "slope" "[I", Cond.methodLink RX0 64 yX5_scaledSupply, Cond.methodLink RX0 67 yX0_loadArtificial, Cond.instanceMethod yX0_loadArtificial, Cond.selects RX0 yX0_loadArtificial yX0_loadArtificial, Cond.code yX0_loadArtificial cX0_loadArtificial 7 none, Cond.constantLong RX0 71 (1152921504606846976), Cond.methodLink RX7 74 yX8_plant, Cond.instanceMethod yX8_plant, Cond.selects RX8 yX8_plant yX8_plant, Cond.initialized RX8, Cond.code yX8_plant cX8_plant 3 none, Cond.fieldLink RX8 34 "ParametricFlow$Arcs" "nodes" "I", Cond.fieldLink RX8 40 "ParametricFlow$Tree" "root" "I", Cond.fieldLink RX8 9 "ParametricFlow$Tree" "parent" "[I", Cond.fieldLink RX8 18 "ParametricFlow$Tree" "depth" "[I", Cond.fieldLink RX8 21 "ParametricFlow$Tree" "potential" "[J"]
def wsX9_value_r5 : List Cond := [Cond.fieldLink RX8 15 "ParametricFlow$Tree" "link" "[I", Cond.methodLink RX7 79 yX8_measure, Cond.instanceMethod yX8_measure, Cond.selects RX8 yX8_measure yX8_measure, Cond.code yX8_measure cX8_measure 8 none, Cond.fieldLink RX8 43 "ParametricFlow$Arcs" "from" "[I", Cond.fieldLink RX8 46 "ParametricFlow$Arcs" "cost" "[J", Cond.methodLink RX7 82 yX7_entering, Cond.instanceMethod yX7_entering, Cond.selects RX7 yX7_entering yX7_entering, Cond.code yX7_entering cX7_entering 7 (some .int), Cond.fieldLink RX7 120 "ParametricFlow$Arcs" "count" "I", Cond.fieldLink RX7 123 "ParametricFlow$Arcs" "place" "[I", Cond.methodLink RX7 126 yX7_reduced, Cond.instanceMethod yX7_reduced, Cond.selects RX7 yX7_reduced yX7_reduced, Cond.code yX7_reduced cX7_reduced 2 (some .long), Cond.fieldLink RX7 106 "ParametricFlow$Arcs" "cost" "[J", Cond.fieldLink RX7 110 "ParametricFlow$Tree" "potential" "[J", Cond.fieldLink RX7 113 "ParametricFlow$Arcs" "from" "[I", Cond.fieldLink RX7 117 "ParametricFlow$Arcs" "to" "[I", Cond.methodLink RX7 86 yX2_close, Cond.instanceMethod yX2_close, Cond.selects RX2 yX2_close yX2_close]
def wsX9_value_r6 : List Cond := [Cond.initialized RX2, Cond.code yX2_close cX2_close 8 none, Cond.fieldLink RX2 9 "ParametricFlow$Cycle" "row" "I", Cond.fieldLink RX2 15 "ParametricFlow$Arcs" "place" "[I", Cond.fieldLink RX2 21 "ParametricFlow$Cycle" "along" "Z", Cond.fieldLink RX2 25 "ParametricFlow$Arcs" "from" "[I", Cond.fieldLink RX2 28 "ParametricFlow$Arcs" "to" "[I", Cond.fieldLink RX2 31 "ParametricFlow$Cycle" "tail" "I", Cond.fieldLink RX2 34 "ParametricFlow$Cycle" "head" "I", Cond.fieldLink RX2 43 "ParametricFlow$Cycle" "apex" "I", Cond.fieldLink RX2 49 "ParametricFlow$Cycle" "least" "J", Cond.fieldLink RX2 53 "ParametricFlow$Cycle" "cut" "I", Cond.fieldLink RX2 56 "ParametricFlow$Cycle" "cutAhead" "Z", Cond.fieldLink RX2 59 "ParametricFlow$Tree" "link" "[I", Cond.fieldLink RX2 66 "ParametricFlow$Tree" "parent" "[I", Cond.methodLink RX2 37 yX8_apex, Cond.instanceMethod yX8_apex, Cond.selects RX8 yX8_apex yX8_apex, Cond.code yX8_apex cX8_apex 6 (some .int), Cond.methodLink RX2 45 yX0_room, Cond.instanceMethod yX0_room, Cond.selects RX0 yX0_room yX0_room, Cond.code yX0_room cX0_room 3 (some .long), Cond.methodLink RX2 62 yX8_leadsUp]
def wsX9_value_r7 : List Cond := [Cond.instanceMethod yX8_leadsUp, Cond.selects RX8 yX8_leadsUp yX8_leadsUp, Cond.code yX8_leadsUp cX8_leadsUp 3 (some .boolean), Cond.methodLink RX7 90 yX2_push, Cond.instanceMethod yX2_push, Cond.selects RX2 yX2_push yX2_push, Cond.code yX2_push cX2_push 5 none, Cond.methodLink RX2 69 yX0_push, Cond.instanceMethod yX0_push, Cond.selects RX0 yX0_push yX0_push, Cond.code yX0_push cX0_push 5 none, Cond.methodLink RX7 94 yX4_add, Cond.instanceMethod yX4_add, Cond.selects RX4 yX4_add yX4_add, Cond.code yX4_add cX4_add 3 none, Cond.fieldLink RX4 9 "ParametricFlow$Longs" "items" "[J", Cond.constant RX4 19 (1000000), Cond.methodLink RX4 20 yJ7_copyOf_c38d5, Cond.static yJ7_copyOf_c38d5, Cond.initialized RJ7, Cond.code yJ7_copyOf_c38d5 cJ7_copyOf_c38d5 3 (some (.array .long)), Cond.methodLink RJ7 319 ⟨"[J", "clone", "()Ljava/lang/Object;"⟩, Cond.sameMethod "[J" "java/lang/Object" "clone" "()Ljava/lang/Object;", Cond.native ⟨"java/lang/Object", "clone", "()Ljava/lang/Object;"⟩]
def wsX9_value_r8 : List Cond := [Cond.instanceMethod ⟨"java/lang/Object", "clone", "()Ljava/lang/Object;"⟩, Cond.selects "[J" ⟨"[J", "clone", "()Ljava/lang/Object;"⟩ ⟨"java/lang/Object", "clone", "()Ljava/lang/Object;"⟩, Cond.classLink RJ7 320 "[J", Cond.arrayClass .long, Cond.methodLink RJ7 304 Lib.Math.min.name, Cond.static Lib.Math.min.name, Cond.code Lib.Math.min.name Lib.Math.min.code 2 (some .int), Cond.methodLink RJ7 150 arraycopyName, Cond.native arraycopyName, Cond.static arraycopyName, Cond.initialized "java/lang/System", Cond.methodLink RX7 98 yX2_exchange, Cond.instanceMethod yX2_exchange, Cond.selects RX2 yX2_exchange yX2_exchange, Cond.code yX2_exchange cX2_exchange 4 (some .int), Cond.methodLink RX2 73 yX0_putAtBound, Cond.instanceMethod yX0_putAtBound, Cond.selects RX0 yX0_putAtBound yX0_putAtBound, Cond.code yX0_putAtBound cX0_putAtBound 2 none, Cond.methodLink RX2 77 yX8_rehang, Cond.instanceMethod yX8_rehang, Cond.selects RX8 yX8_rehang yX8_rehang, Cond.code yX8_rehang cX8_rehang 11 none, Cond.methodLink RX7 102 yX0_hasArtificialFlow]
def wsX9_value_r9 : List Cond := [Cond.instanceMethod yX0_hasArtificialFlow, Cond.selects RX0 yX0_hasArtificialFlow yX0_hasArtificialFlow, Cond.code yX0_hasArtificialFlow cX0_hasArtificialFlow 2 (some .boolean), Cond.methodLink RX9 133 yX0_totalCost, Cond.instanceMethod yX0_totalCost, Cond.selects RX0 yX0_totalCost yX0_totalCost, Cond.code yX0_totalCost cX0_totalCost 4 (some .long), Cond.methodLink RX9 143 yX9_lowestTerms, Cond.static yX9_lowestTerms, Cond.code yX9_lowestTerms cX9_lowestTerms 7 (some .long), Cond.methodLink RX9 204 yX9_commonDivisor, Cond.static yX9_commonDivisor, Cond.code yX9_commonDivisor cX9_commonDivisor 11 (some .long), Cond.methodLink RX9 208 Lib.MathLoose.abs_long.x]
def wsX9_value : List Cond := .code yX9_value cX9_value 4 (some .long) :: ((wsX9_value_r1 ++ (wsX9_value_r2 ++ (wsX9_value_r3 ++ (wsX9_value_r4 ++ (wsX9_value_r5 ++ (wsX9_value_r6 ++ (wsX9_value_r7 ++ (wsX9_value_r8 ++ wsX9_value_r9)))))))) ++ wsX90 ++ wsX70 ++ wsX50 ++ wsX40 ++ wsX00 ++ wsX80 ++ wsX20)
def wsX9_problem_r1 : List Cond := [Cond.fieldLink RX9 32 "ParametricFlow" "work" "LParametricFlow$Simplex;", Cond.fieldLink RX9 14 "ParametricFlow" "net" "LParametricFlow$Network;", Cond.methodLink RX9 93 yX9_isParameter, Cond.static yX9_isParameter, Cond.initialized RX9, Cond.code yX9_isParameter cX9_isParameter 2 (some .boolean), Cond.methodLink RX9 35 yX9_isWithin, Cond.static yX9_isWithin, Cond.code yX9_isWithin cX9_isWithin 3 (some .boolean), Cond.methodLink RX9 97 yX7_run, Cond.instanceMethod yX7_run, Cond.selects RX7 yX7_run yX7_run, Cond.initialized RX7, Cond.code yX7_run cX7_run 8 (some .int), Cond.fieldLink RX7 53 "ParametricFlow$Network" "mode" "I", Cond.fieldLink RX7 59 "ParametricFlow$Simplex" "mode" "I", Cond.fieldLink RX7 60 "ParametricFlow$Simplex" "p" "J", Cond.fieldLink RX7 9 "ParametricFlow$Simplex" "q" "J", Cond.fieldLink RX7 39 "ParametricFlow$Simplex" "entered" "LParametricFlow$Longs;", Cond.fieldLink RX7 43 "ParametricFlow$Simplex" "left" "LParametricFlow$Longs;", Cond.fieldLink RX7 18 "ParametricFlow$Simplex" "arcs" "LParametricFlow$Arcs;", Cond.fieldLink RX7 25 "ParametricFlow$Simplex" "tree" "LParametricFlow$Tree;", Cond.constant RX7 78 (1000000), Cond.fieldLink RX7 32 "ParametricFlow$Simplex" "cycle" "LParametricFlow$Cycle;"]
def wsX9_problem_r2 : List Cond := [Cond.methodLink RX7 63 yX4_clear, Cond.instanceMethod yX4_clear, Cond.selects RX4 yX4_clear yX4_clear, Cond.initialized RX4, Cond.code yX4_clear cX4_clear 1 none, Cond.fieldLink RX4 15 "ParametricFlow$Longs" "size" "I", Cond.methodLink RX7 66 yX5_isBalanced, Cond.instanceMethod yX5_isBalanced, Cond.selects RX5 yX5_isBalanced yX5_isBalanced, Cond.initialized RX5, Cond.code yX5_isBalanced cX5_isBalanced 8 (some .boolean), Cond.fieldLink RX5 9 "ParametricFlow$Network" "nodes" "I", Cond.methodLink RX5 49 yX5_scaledSupply, Cond.instanceMethod yX5_scaledSupply, Cond.selects RX5 yX5_scaledSupply yX5_scaledSupply, Cond.code yX5_scaledSupply cX5_scaledSupply 6 (some .long), Cond.fieldLink RX5 15 "ParametricFlow$Network" "mode" "I", Cond.fieldLink RX5 18 "ParametricFlow$Network" "supply" "[I", Cond.fieldLink RX5 22 "ParametricFlow$Network" "supplySlope" "[I", Cond.methodLink RX7 70 yX0_load, Cond.instanceMethod yX0_load, Cond.selects RX0 yX0_load yX0_load, Cond.initialized RX0, Cond.code yX0_load cX0_load 9 none]
def wsX9_problem_r3 : List Cond := [Cond.fieldLink RX0 31 "ParametricFlow$Network" "nodes" "I", Cond.fieldLink RX0 37 "ParametricFlow$Arcs" "nodes" "I", Cond.fieldLink RX0 38 "ParametricFlow$Network" "arcs" "I", Cond.fieldLink RX0 41 "ParametricFlow$Arcs" "count" "I", Cond.fieldLink RX0 9 "ParametricFlow$Arcs" "from" "[I", Cond.fieldLink RX0 44 "ParametricFlow$Network" "from" "[I", Cond.fieldLink RX0 15 "ParametricFlow$Arcs" "to" "[I", Cond.fieldLink RX0 45 "ParametricFlow$Network" "to" "[I", Cond.fieldLink RX0 18 "ParametricFlow$Arcs" "capacity" "[J", Cond.fieldLink RX0 22 "ParametricFlow$Arcs" "cost" "[J", Cond.fieldLink RX0 25 "ParametricFlow$Arcs" "flow" "[J", Cond.fieldLink RX0 28 "ParametricFlow$Arcs" "place" "[I", Cond.methodLink RX0 54 Lib.MathLoose.abs_long.x, Cond.static Lib.MathLoose.abs_long.x, Cond.initialized "java/lang/Math", Cond.code Lib.MathLoose.abs_long.x Lib.MathLoose.abs_long.code 2 (some .long), Cond.methodLink RX0 60 Lib.MathLoose.max_long.x, Cond.static Lib.MathLoose.max_long.x, Cond.code Lib.MathLoose.max_long.x Lib.MathLoose.max_long.code 4 (some .long), Cond.methodLink RX0 46 yX5_scaledCapacity, Cond.instanceMethod yX5_scaledCapacity, Cond.selects RX5 yX5_scaledCapacity yX5_scaledCapacity, Cond.code yX5_scaledCapacity cX5_scaledCapacity 4 (some .long), Cond.fieldLink RX5 31 "ParametricFlow$Network" "capacity" "[I"]
def wsX9_problem_r4 : List Cond := [Cond.methodLink RX0 50 yX5_scaledCost, Cond.instanceMethod yX5_scaledCost, Cond.selects RX5 yX5_scaledCost yX5_scaledCost, Cond.code yX5_scaledCost cX5_scaledCost 6 (some .long), Cond.fieldLink RX5 34 "ParametricFlow$Network" "cost" "[I", Cond.fieldLink RX5 37 "ParametricFlow$Network" "slope" "[I", Cond.methodLink RX0 64 yX5_scaledSupply, Cond.methodLink RX0 67 yX0_loadArtificial, Cond.instanceMethod yX0_loadArtificial, Cond.selects RX0 yX0_loadArtificial yX0_loadArtificial, Cond.code yX0_loadArtificial cX0_loadArtificial 7 none, Cond.constantLong RX0 71 (1152921504606846976), Cond.methodLink RX7 74 yX8_plant, Cond.instanceMethod yX8_plant, Cond.selects RX8 yX8_plant yX8_plant, Cond.initialized RX8, Cond.code yX8_plant cX8_plant 3 none, Cond.fieldLink RX8 34 "ParametricFlow$Arcs" "nodes" "I", Cond.fieldLink RX8 40 "ParametricFlow$Tree" "root" "I", Cond.fieldLink RX8 9 "ParametricFlow$Tree" "parent" "[I", Cond.fieldLink RX8 18 "ParametricFlow$Tree" "depth" "[I", Cond.fieldLink RX8 21 "ParametricFlow$Tree" "potential" "[J", Cond.fieldLink RX8 15 "ParametricFlow$Tree" "link" "[I", Cond.methodLink RX7 79 yX8_measure]
def wsX9_problem_r5 : List Cond := [Cond.instanceMethod yX8_measure, Cond.selects RX8 yX8_measure yX8_measure, Cond.code yX8_measure cX8_measure 8 none, Cond.fieldLink RX8 43 "ParametricFlow$Arcs" "from" "[I", Cond.fieldLink RX8 46 "ParametricFlow$Arcs" "cost" "[J", Cond.methodLink RX7 82 yX7_entering, Cond.instanceMethod yX7_entering, Cond.selects RX7 yX7_entering yX7_entering, Cond.code yX7_entering cX7_entering 7 (some .int), Cond.fieldLink RX7 120 "ParametricFlow$Arcs" "count" "I", Cond.fieldLink RX7 123 "ParametricFlow$Arcs" "place" "[I", Cond.methodLink RX7 126 yX7_reduced, Cond.instanceMethod yX7_reduced, Cond.selects RX7 yX7_reduced yX7_reduced, Cond.code yX7_reduced cX7_reduced 2 (some .long), Cond.fieldLink RX7 106 "ParametricFlow$Arcs" "cost" "[J", Cond.fieldLink RX7 110 "ParametricFlow$Tree" "potential" "[J", Cond.fieldLink RX7 113 "ParametricFlow$Arcs" "from" "[I", Cond.fieldLink RX7 117 "ParametricFlow$Arcs" "to" "[I", Cond.methodLink RX7 86 yX2_close, Cond.instanceMethod yX2_close, Cond.selects RX2 yX2_close yX2_close, Cond.initialized RX2, Cond.code yX2_close cX2_close 8 none]
def wsX9_problem_r6 : List Cond := [Cond.fieldLink RX2 9 "ParametricFlow$Cycle" "row" "I", Cond.fieldLink RX2 15 "ParametricFlow$Arcs" "place" "[I", Cond.fieldLink RX2 21 "ParametricFlow$Cycle" "along" "Z", Cond.fieldLink RX2 25 "ParametricFlow$Arcs" "from" "[I", Cond.fieldLink RX2 28 "ParametricFlow$Arcs" "to" "[I", Cond.fieldLink RX2 31 "ParametricFlow$Cycle" "tail" "I", Cond.fieldLink RX2 34 "ParametricFlow$Cycle" "head" "I", Cond.fieldLink RX2 43 "ParametricFlow$Cycle" "apex" "I", Cond.fieldLink RX2 49 "ParametricFlow$Cycle" "least" "J", Cond.fieldLink RX2 53 "ParametricFlow$Cycle" "cut" "I", Cond.fieldLink RX2 56 "ParametricFlow$Cycle" "cutAhead" "Z", Cond.fieldLink RX2 59 "ParametricFlow$Tree" "link" "[I", Cond.fieldLink RX2 66 "ParametricFlow$Tree" "parent" "[I", Cond.methodLink RX2 37 yX8_apex, Cond.instanceMethod yX8_apex, Cond.selects RX8 yX8_apex yX8_apex, Cond.code yX8_apex cX8_apex 6 (some .int), Cond.methodLink RX2 45 yX0_room, Cond.instanceMethod yX0_room, Cond.selects RX0 yX0_room yX0_room, Cond.code yX0_room cX0_room 3 (some .long), Cond.methodLink RX2 62 yX8_leadsUp, Cond.instanceMethod yX8_leadsUp, Cond.selects RX8 yX8_leadsUp yX8_leadsUp]
def wsX9_problem_r7 : List Cond := [Cond.code yX8_leadsUp cX8_leadsUp 3 (some .boolean), Cond.methodLink RX7 90 yX2_push, Cond.instanceMethod yX2_push, Cond.selects RX2 yX2_push yX2_push, Cond.code yX2_push cX2_push 5 none, Cond.methodLink RX2 69 yX0_push, Cond.instanceMethod yX0_push, Cond.selects RX0 yX0_push yX0_push, Cond.code yX0_push cX0_push 5 none, Cond.methodLink RX7 94 yX4_add, Cond.instanceMethod yX4_add, Cond.selects RX4 yX4_add yX4_add, Cond.code yX4_add cX4_add 3 none, Cond.fieldLink RX4 9 "ParametricFlow$Longs" "items" "[J", Cond.constant RX4 19 (1000000), Cond.methodLink RX4 20 yJ7_copyOf_c38d5, Cond.static yJ7_copyOf_c38d5, Cond.initialized RJ7, Cond.code yJ7_copyOf_c38d5 cJ7_copyOf_c38d5 3 (some (.array .long)), Cond.methodLink RJ7 319 ⟨"[J", "clone", "()Ljava/lang/Object;"⟩, Cond.sameMethod "[J" "java/lang/Object" "clone" "()Ljava/lang/Object;", Cond.native ⟨"java/lang/Object", "clone", "()Ljava/lang/Object;"⟩, Cond.instanceMethod ⟨"java/lang/Object", "clone", "()Ljava/lang/Object;"⟩, Cond.selects "[J" ⟨"[J", "clone", "()Ljava/lang/Object;"⟩ ⟨"java/lang/Object", "clone", "()Ljava/lang/Object;"⟩]
def wsX9_problem_r8 : List Cond := [Cond.classLink RJ7 320 "[J", Cond.arrayClass .long, Cond.methodLink RJ7 304 Lib.Math.min.name, Cond.static Lib.Math.min.name, Cond.code Lib.Math.min.name Lib.Math.min.code 2 (some .int), Cond.methodLink RJ7 150 arraycopyName, Cond.native arraycopyName, Cond.static arraycopyName, Cond.initialized "java/lang/System", Cond.methodLink RX7 98 yX2_exchange, Cond.instanceMethod yX2_exchange, Cond.selects RX2 yX2_exchange yX2_exchange, Cond.code yX2_exchange cX2_exchange 4 (some .int), Cond.methodLink RX2 73 yX0_putAtBound, Cond.instanceMethod yX0_putAtBound, Cond.selects RX0 yX0_putAtBound yX0_putAtBound, Cond.code yX0_putAtBound cX0_putAtBound 2 none, Cond.methodLink RX2 77 yX8_rehang, Cond.instanceMethod yX8_rehang, Cond.selects RX8 yX8_rehang yX8_rehang, Cond.code yX8_rehang cX8_rehang 11 none, Cond.methodLink RX7 102 yX0_hasArtificialFlow, Cond.instanceMethod yX0_hasArtificialFlow, Cond.selects RX0 yX0_hasArtificialFlow yX0_hasArtificialFlow]
def wsX9_problem_r9 : List Cond := [Cond.code yX0_hasArtificialFlow cX0_hasArtificialFlow 2 (some .boolean)]
def wsX9_problem : List Cond := .code yX9_problem cX9_problem 4 (some .int) :: ((wsX9_problem_r1 ++ (wsX9_problem_r2 ++ (wsX9_problem_r3 ++ (wsX9_problem_r4 ++ (wsX9_problem_r5 ++ (wsX9_problem_r6 ++ (wsX9_problem_r7 ++ (wsX9_problem_r8 ++ wsX9_problem_r9)))))))) ++ wsX90 ++ wsX50 ++ wsX70 ++ wsX40 ++ wsX00 ++ wsX80 ++ wsX20)
def wsX9_isInterval : List Cond := .code yX9_isInterval cX9_isInterval 2 (some .boolean) :: ([.methodLink RX9 35 yX9_isWithin, .static yX9_isWithin, .initialized RX9, .code yX9_isWithin cX9_isWithin 3 (some .boolean)])
def wsX9_breakpoints_r1 : List Cond := [Cond.fieldLink RX9 21 "ParametricFlow" "curve" "LParametricFlow$Curve;", Cond.fieldLink RX9 14 "ParametricFlow" "net" "LParametricFlow$Network;", Cond.fieldLink RX9 32 "ParametricFlow" "work" "LParametricFlow$Simplex;", Cond.fieldLink RX9 188 "ParametricFlow$Curve" "numerators" "LParametricFlow$Longs;", Cond.fieldLink RX9 114 "ParametricFlow$Longs" "size" "I", Cond.methodLink RX9 181 yX9_isInterval, Cond.static yX9_isInterval, Cond.initialized RX9, Cond.code yX9_isInterval cX9_isInterval 2 (some .boolean), Cond.methodLink RX9 35 yX9_isWithin, Cond.static yX9_isWithin, Cond.code yX9_isWithin cX9_isWithin 3 (some .boolean), Cond.methodLink RX9 184 yX1_trace, Cond.instanceMethod yX1_trace, Cond.selects RX1 yX1_trace yX1_trace, Cond.initialized RX1, Cond.code yX1_trace cX1_trace 7 (some .int), Cond.fieldLink RX1 38 "ParametricFlow$Curve" "known" "Z", Cond.fieldLink RX1 42 "ParametricFlow$Curve" "low" "I", Cond.fieldLink RX1 46 "ParametricFlow$Curve" "high" "I", Cond.fieldLink RX1 49 "ParametricFlow$Curve" "answer" "I", Cond.fieldLink RX1 56 "ParametricFlow$Curve" "depth" "I", Cond.constant RX1 59 (1000000), Cond.fieldLink RX1 34 "ParametricFlow$Curve" "rights" "Ljava/util/ArrayList;"]
def wsX9_breakpoints_r2 : List Cond := [Cond.classLink RX1 24 "ParametricFlow$Line", Cond.fieldLink RX1 27 "ParametricFlow$Curve" "left" "LParametricFlow$Line;", Cond.methodLink RX1 52 yX1_begin, Cond.instanceMethod yX1_begin, Cond.selects RX1 yX1_begin yX1_begin, Cond.code yX1_begin cX1_begin 3 (some .int), Cond.fieldLink RX1 12 "ParametricFlow$Curve" "numerators" "LParametricFlow$Longs;", Cond.fieldLink RX1 18 "ParametricFlow$Curve" "denominators" "LParametricFlow$Longs;", Cond.fieldLink RX1 21 "ParametricFlow$Curve" "slopes" "LParametricFlow$Longs;", Cond.fieldLink RX1 89 "ParametricFlow$Line" "slope" "J", Cond.methodLink RX1 72 yX5_isBalanced, Cond.instanceMethod yX5_isBalanced, Cond.selects RX5 yX5_isBalanced yX5_isBalanced, Cond.initialized RX5, Cond.code yX5_isBalanced cX5_isBalanced 8 (some .boolean), Cond.fieldLink RX5 9 "ParametricFlow$Network" "nodes" "I", Cond.methodLink RX5 49 yX5_scaledSupply, Cond.instanceMethod yX5_scaledSupply, Cond.selects RX5 yX5_scaledSupply yX5_scaledSupply, Cond.code yX5_scaledSupply cX5_scaledSupply 6 (some .long), Cond.fieldLink RX5 15 "ParametricFlow$Network" "mode" "I", Cond.fieldLink RX5 18 "ParametricFlow$Network" "supply" "[I", Cond.fieldLink RX5 22 "ParametricFlow$Network" "supplySlope" "[I", Cond.methodLink RX1 78 yX3_touch]
def wsX9_breakpoints_r3 : List Cond := [Cond.instanceMethod yX3_touch, Cond.selects RX3 yX3_touch yX3_touch, Cond.initialized RX3, Cond.code yX3_touch cX3_touch 7 (some .boolean), Cond.fieldLink RX3 15 "ParametricFlow$Line" "p" "J", Cond.fieldLink RX3 9 "ParametricFlow$Line" "q" "J", Cond.fieldLink RX3 28 "ParametricFlow$Line" "slope" "J", Cond.fieldLink RX3 31 "ParametricFlow$Simplex" "arcs" "LParametricFlow$Arcs;", Cond.fieldLink RX3 41 "ParametricFlow$Line" "start" "J", Cond.methodLink RX3 18 yX7_run, Cond.instanceMethod yX7_run, Cond.selects RX7 yX7_run yX7_run, Cond.initialized RX7, Cond.code yX7_run cX7_run 8 (some .int), Cond.fieldLink RX7 53 "ParametricFlow$Network" "mode" "I", Cond.fieldLink RX7 59 "ParametricFlow$Simplex" "mode" "I", Cond.fieldLink RX7 60 "ParametricFlow$Simplex" "p" "J", Cond.fieldLink RX7 9 "ParametricFlow$Simplex" "q" "J", Cond.fieldLink RX7 39 "ParametricFlow$Simplex" "entered" "LParametricFlow$Longs;", Cond.fieldLink RX7 43 "ParametricFlow$Simplex" "left" "LParametricFlow$Longs;", Cond.fieldLink RX7 18 "ParametricFlow$Simplex" "arcs" "LParametricFlow$Arcs;", Cond.fieldLink RX7 25 "ParametricFlow$Simplex" "tree" "LParametricFlow$Tree;", Cond.constant RX7 78 (1000000), Cond.fieldLink RX7 32 "ParametricFlow$Simplex" "cycle" "LParametricFlow$Cycle;"]
def wsX9_breakpoints_r4 : List Cond := [Cond.methodLink RX7 63 yX4_clear, Cond.instanceMethod yX4_clear, Cond.selects RX4 yX4_clear yX4_clear, Cond.initialized RX4, Cond.code yX4_clear cX4_clear 1 none, Cond.fieldLink RX4 15 "ParametricFlow$Longs" "size" "I", Cond.methodLink RX7 66 yX5_isBalanced, Cond.methodLink RX7 70 yX0_load, Cond.instanceMethod yX0_load, Cond.selects RX0 yX0_load yX0_load, Cond.initialized RX0, Cond.code yX0_load cX0_load 9 none, Cond.fieldLink RX0 31 "ParametricFlow$Network" "nodes" "I", Cond.fieldLink RX0 37 "ParametricFlow$Arcs" "nodes" "I", Cond.fieldLink RX0 38 "ParametricFlow$Network" "arcs" "I", Cond.fieldLink RX0 41 "ParametricFlow$Arcs" "count" "I", Cond.fieldLink RX0 9 "ParametricFlow$Arcs" "from" "[I", Cond.fieldLink RX0 44 "ParametricFlow$Network" "from" "[I", Cond.fieldLink RX0 15 "ParametricFlow$Arcs" "to" "[I", Cond.fieldLink RX0 45 "ParametricFlow$Network" "to" "[I", Cond.fieldLink RX0 18 "ParametricFlow$Arcs" "capacity" "[J", Cond.fieldLink RX0 22 "ParametricFlow$Arcs" "cost" "[J", Cond.fieldLink RX0 25 "ParametricFlow$Arcs" "flow" "[J", Cond.fieldLink RX0 28 "ParametricFlow$Arcs" "place" "[I"]
def wsX9_breakpoints_r5 : List Cond := [Cond.methodLink RX0 54 Lib.MathLoose.abs_long.x, Cond.static Lib.MathLoose.abs_long.x, Cond.initialized "java/lang/Math", Cond.code Lib.MathLoose.abs_long.x Lib.MathLoose.abs_long.code 2 (some .long), Cond.methodLink RX0 60 Lib.MathLoose.max_long.x, Cond.static Lib.MathLoose.max_long.x, Cond.code Lib.MathLoose.max_long.x Lib.MathLoose.max_long.code 4 (some .long), Cond.methodLink RX0 46 yX5_scaledCapacity, Cond.instanceMethod yX5_scaledCapacity, Cond.selects RX5 yX5_scaledCapacity yX5_scaledCapacity, Cond.code yX5_scaledCapacity cX5_scaledCapacity 4 (some .long), Cond.fieldLink RX5 31 "ParametricFlow$Network" "capacity" "[I", Cond.methodLink RX0 50 yX5_scaledCost, Cond.instanceMethod yX5_scaledCost, Cond.selects RX5 yX5_scaledCost yX5_scaledCost, Cond.code yX5_scaledCost cX5_scaledCost 6 (some .long), Cond.fieldLink RX5 34 "ParametricFlow$Network" "cost" "[I", Cond.fieldLink RX5 37 "ParametricFlow$Network" "slope" "[I", Cond.methodLink RX0 64 yX5_scaledSupply, Cond.methodLink RX0 67 yX0_loadArtificial, Cond.instanceMethod yX0_loadArtificial, Cond.selects RX0 yX0_loadArtificial yX0_loadArtificial, Cond.code yX0_loadArtificial cX0_loadArtificial 7 none, Cond.constantLong RX0 71 (1152921504606846976)]
def wsX9_breakpoints_r6 : List Cond := [Cond.methodLink RX7 74 yX8_plant, Cond.instanceMethod yX8_plant, Cond.selects RX8 yX8_plant yX8_plant, Cond.initialized RX8, Cond.code yX8_plant cX8_plant 3 none, Cond.fieldLink RX8 34 "ParametricFlow$Arcs" "nodes" "I", Cond.fieldLink RX8 40 "ParametricFlow$Tree" "root" "I", Cond.fieldLink RX8 9 "ParametricFlow$Tree" "parent" "[I", Cond.fieldLink RX8 18 "ParametricFlow$Tree" "depth" "[I", Cond.fieldLink RX8 21 "ParametricFlow$Tree" "potential" "[J", Cond.fieldLink RX8 15 "ParametricFlow$Tree" "link" "[I", Cond.methodLink RX7 79 yX8_measure, Cond.instanceMethod yX8_measure, Cond.selects RX8 yX8_measure yX8_measure, Cond.code yX8_measure cX8_measure 8 none, Cond.fieldLink RX8 43 "ParametricFlow$Arcs" "from" "[I", Cond.fieldLink RX8 46 "ParametricFlow$Arcs" "cost" "[J", Cond.methodLink RX7 82 yX7_entering, Cond.instanceMethod yX7_entering, Cond.selects RX7 yX7_entering yX7_entering, Cond.code yX7_entering cX7_entering 7 (some .int), Cond.fieldLink RX7 120 "ParametricFlow$Arcs" "count" "I", Cond.fieldLink RX7 123 "ParametricFlow$Arcs" "place" "[I", Cond.methodLink RX7 126 yX7_reduced]
def wsX9_breakpoints_r7 : List Cond := [Cond.instanceMethod yX7_reduced, Cond.selects RX7 yX7_reduced yX7_reduced, Cond.code yX7_reduced cX7_reduced 2 (some .long), Cond.fieldLink RX7 106 "ParametricFlow$Arcs" "cost" "[J", Cond.fieldLink RX7 110 "ParametricFlow$Tree" "potential" "[J", Cond.fieldLink RX7 113 "ParametricFlow$Arcs" "from" "[I", Cond.fieldLink RX7 117 "ParametricFlow$Arcs" "to" "[I", Cond.methodLink RX7 86 yX2_close, Cond.instanceMethod yX2_close, Cond.selects RX2 yX2_close yX2_close, Cond.initialized RX2, Cond.code yX2_close cX2_close 8 none, Cond.fieldLink RX2 9 "ParametricFlow$Cycle" "row" "I", Cond.fieldLink RX2 15 "ParametricFlow$Arcs" "place" "[I", Cond.fieldLink RX2 21 "ParametricFlow$Cycle" "along" "Z", Cond.fieldLink RX2 25 "ParametricFlow$Arcs" "from" "[I", Cond.fieldLink RX2 28 "ParametricFlow$Arcs" "to" "[I", Cond.fieldLink RX2 31 "ParametricFlow$Cycle" "tail" "I", Cond.fieldLink RX2 34 "ParametricFlow$Cycle" "head" "I", Cond.fieldLink RX2 43 "ParametricFlow$Cycle" "apex" "I", Cond.fieldLink RX2 49 "ParametricFlow$Cycle" "least" "J", Cond.fieldLink RX2 53 "ParametricFlow$Cycle" "cut" "I", Cond.fieldLink RX2 56 "ParametricFlow$Cycle" "cutAhead" "Z", Cond.fieldLink RX2 59 "ParametricFlow$Tree" "link" "[I"]
def wsX9_breakpoints_r8 : List Cond := [Cond.fieldLink RX2 66 "ParametricFlow$Tree" "parent" "[I", Cond.methodLink RX2 37 yX8_apex, Cond.instanceMethod yX8_apex, Cond.selects RX8 yX8_apex yX8_apex, Cond.code yX8_apex cX8_apex 6 (some .int), Cond.methodLink RX2 45 yX0_room, Cond.instanceMethod yX0_room, Cond.selects RX0 yX0_room yX0_room, Cond.code yX0_room cX0_room 3 (some .long), Cond.methodLink RX2 62 yX8_leadsUp, Cond.instanceMethod yX8_leadsUp, Cond.selects RX8 yX8_leadsUp yX8_leadsUp, Cond.code yX8_leadsUp cX8_leadsUp 3 (some .boolean), Cond.methodLink RX7 90 yX2_push, Cond.instanceMethod yX2_push, Cond.selects RX2 yX2_push yX2_push, Cond.code yX2_push cX2_push 5 none, Cond.methodLink RX2 69 yX0_push, Cond.instanceMethod yX0_push, Cond.selects RX0 yX0_push yX0_push, Cond.code yX0_push cX0_push 5 none, Cond.methodLink RX7 94 yX4_add, Cond.instanceMethod yX4_add, Cond.selects RX4 yX4_add yX4_add]
def wsX9_breakpoints_r9 : List Cond := [Cond.code yX4_add cX4_add 3 none, Cond.fieldLink RX4 9 "ParametricFlow$Longs" "items" "[J", Cond.constant RX4 19 (1000000), Cond.methodLink RX4 20 yJ7_copyOf_c38d5, Cond.static yJ7_copyOf_c38d5, Cond.initialized RJ7, Cond.code yJ7_copyOf_c38d5 cJ7_copyOf_c38d5 3 (some (.array .long)), Cond.methodLink RJ7 319 ⟨"[J", "clone", "()Ljava/lang/Object;"⟩, Cond.sameMethod "[J" "java/lang/Object" "clone" "()Ljava/lang/Object;", Cond.native ⟨"java/lang/Object", "clone", "()Ljava/lang/Object;"⟩, Cond.instanceMethod ⟨"java/lang/Object", "clone", "()Ljava/lang/Object;"⟩, Cond.selects "[J" ⟨"[J", "clone", "()Ljava/lang/Object;"⟩ ⟨"java/lang/Object", "clone", "()Ljava/lang/Object;"⟩, Cond.classLink RJ7 320 "[J", Cond.arrayClass .long, Cond.methodLink RJ7 304 Lib.Math.min.name, Cond.static Lib.Math.min.name, Cond.code Lib.Math.min.name Lib.Math.min.code 2 (some .int), Cond.methodLink RJ7 150 arraycopyName, Cond.native arraycopyName, Cond.static arraycopyName, Cond.initialized "java/lang/System", Cond.methodLink RX7 98 yX2_exchange, Cond.instanceMethod yX2_exchange, Cond.selects RX2 yX2_exchange yX2_exchange]
def wsX9_breakpoints_r10 : List Cond := [Cond.code yX2_exchange cX2_exchange 4 (some .int), Cond.methodLink RX2 73 yX0_putAtBound, Cond.instanceMethod yX0_putAtBound, Cond.selects RX0 yX0_putAtBound yX0_putAtBound, Cond.code yX0_putAtBound cX0_putAtBound 2 none, Cond.methodLink RX2 77 yX8_rehang, Cond.instanceMethod yX8_rehang, Cond.selects RX8 yX8_rehang yX8_rehang, Cond.code yX8_rehang cX8_rehang 11 none, Cond.methodLink RX7 102 yX0_hasArtificialFlow, Cond.instanceMethod yX0_hasArtificialFlow, Cond.selects RX0 yX0_hasArtificialFlow yX0_hasArtificialFlow, Cond.code yX0_hasArtificialFlow cX0_hasArtificialFlow 2 (some .boolean), Cond.methodLink RX3 24 yX7_rate, Cond.instanceMethod yX7_rate, Cond.selects RX7 yX7_rate yX7_rate, Cond.code yX7_rate cX7_rate 5 (some .long), Cond.fieldLink RX7 130 "ParametricFlow$Arcs" "flow" "[J", Cond.fieldLink RX7 133 "ParametricFlow$Network" "slope" "[I", Cond.fieldLink RX7 136 "ParametricFlow$Arcs" "nodes" "I", Cond.fieldLink RX7 139 "ParametricFlow$Network" "supplySlope" "[I", Cond.methodLink RX3 35 yX0_totalCost, Cond.instanceMethod yX0_totalCost, Cond.selects RX0 yX0_totalCost yX0_totalCost]
def wsX9_breakpoints_r11 : List Cond := [Cond.code yX0_totalCost cX0_totalCost 4 (some .long), Cond.methodLink RX1 82 yX1_nextRight, Cond.instanceMethod yX1_nextRight, Cond.selects RX1 yX1_nextRight yX1_nextRight, Cond.code yX1_nextRight cX1_nextRight 1 (some (.object "ParametricFlow$Line")), Cond.classLink RX1 24 RX3, Cond.instantiable RX3 4, Cond.methodLink RX1 97 yJx4a65c_size_8abf5, Cond.instanceMethod yJx4a65c_size_8abf5, Cond.selects RJx4a65c yJx4a65c_size_8abf5 yJx4a65c_size_8abf5, Cond.initialized RJx4a65c, Cond.code yJx4a65c_size_8abf5 cJx4a65c_size_8abf5 1 (some .int), Cond.fieldLink RJx4a65c 48 "java/util/ArrayList" "size" "I", Cond.instanceMethod yX3_init, Cond.code yX3_init cX3_init 1 none, Cond.methodLink RX3 3 objectInit, Cond.instanceMethod objectInit, Cond.code objectInit ⟨#[0xb1]⟩ 1 none, Cond.methodLink RX1 101 yJx4a65c_add_9ea2d, Cond.instanceMethod yJx4a65c_add_9ea2d, Cond.selects RJx4a65c yJx4a65c_add_9ea2d yJx4a65c_add_9ea2d, Cond.code yJx4a65c_add_9ea2d cJx4a65c_add_9ea2d 2 (some .boolean), Cond.fieldLink RJx4a65c 63 "java/util/ArrayList" "modCount" "I", Cond.sameField "java/util/ArrayList" "java/util/AbstractList" "modCount" "I"]
def wsX9_breakpoints_r12 : List Cond := [Cond.fieldLink RJx4a65c 9 "java/util/ArrayList" "elementData" "[Ljava/lang/Object;", Cond.methodLink RJx4a65c 131 yJx4a65c_add_72be8, Cond.instanceMethod yJx4a65c_add_72be8, Cond.selects RJx4a65c yJx4a65c_add_72be8 yJx4a65c_add_72be8, Cond.code yJx4a65c_add_72be8 cJx4a65c_add_72be8 4 none, Cond.methodLink RJx4a65c 129 yJx4a65c_grow_d5877, Cond.instanceMethod yJx4a65c_grow_d5877, Cond.selects RJx4a65c yJx4a65c_grow_d5877 yJx4a65c_grow_d5877, Cond.code yJx4a65c_grow_d5877 cJx4a65c_grow_d5877 1 (some (.array (.object "java/lang/Object"))), Cond.methodLink RJx4a65c 69 yJx4a65c_grow_92f84, Cond.instanceMethod yJx4a65c_grow_92f84, Cond.selects RJx4a65c yJx4a65c_grow_92f84 yJx4a65c_grow_92f84, Cond.code yJx4a65c_grow_92f84 cJx4a65c_grow_92f84 4 (some (.array (.object "java/lang/Object"))), Cond.fieldLink RJx4a65c 39 "java/util/ArrayList" "DEFAULTCAPACITY_EMPTY_ELEMENTDATA" "[Ljava/lang/Object;", Cond.methodLink RJx4a65c 79 Lib.Math.max.name, Cond.static Lib.Math.max.name, Cond.code Lib.Math.max.name Lib.Math.max.code 2 (some .int), Cond.classLink RJx4a65c 7 "java/lang/Object", Cond.methodLink RJx4a65c 73 yJ8_newLength_cabcc, Cond.static yJ8_newLength_cabcc, Cond.initialized RJ8, Cond.code yJ8_newLength_cabcc cJ8_newLength_cabcc 4 (some .int), Cond.methodLink RJ8 194 Lib.Math.max.name, Cond.constant RJ8 200 (2147483639)]
def wsX9_breakpoints_r13 : List Cond := [Cond.methodLink RJ8 201 yJ8_hugeLength_7cf53, Cond.static yJ8_hugeLength_7cf53, Cond.code yJ8_hugeLength_7cf53 cJ8_hugeLength_7cf53 3 (some .int), Cond.methodLink RJx4a65c 66 yJ7_copyOf_1904c, Cond.static yJ7_copyOf_1904c, Cond.code yJ7_copyOf_1904c cJ7_copyOf_1904c 2 (some (.array (.object "java/lang/Object"))), Cond.methodLink RJ7 86 ⟨"java/lang/Object", "getClass", "()Ljava/lang/Class;"⟩, Cond.selects "[Ljava/lang/Object;" ⟨"java/lang/Object", "getClass", "()Ljava/lang/Class;"⟩ ⟨"java/lang/Object", "getClass", "()Ljava/lang/Class;"⟩, Cond.instanceMethod ⟨"java/lang/Object", "getClass", "()Ljava/lang/Class;"⟩, Cond.native ⟨"java/lang/Object", "getClass", "()Ljava/lang/Class;"⟩, Cond.methodLink RJ7 300 yJ7_copyOf_6403c, Cond.static yJ7_copyOf_6403c, Cond.code yJ7_copyOf_6403c cJ7_copyOf_6403c 4 (some (.array (.object "java/lang/Object"))), Cond.classLink RJ7 110 "[Ljava/lang/Object;", Cond.classLink RJ7 2 "java/lang/Object", Cond.methodLink RX1 60 yJx4a65c_get_915e3, Cond.instanceMethod yJx4a65c_get_915e3, Cond.selects RJx4a65c yJx4a65c_get_915e3 yJx4a65c_get_915e3, Cond.code yJx4a65c_get_915e3 cJx4a65c_get_915e3 2 (some (.object "java/lang/Object")), Cond.methodLink RJx4a65c 118 yJ15_checkIndex_7cf53, Cond.static yJ15_checkIndex_7cf53, Cond.initialized RJ15, Cond.code yJ15_checkIndex_7cf53 cJ15_checkIndex_7cf53 2 (some .int), Cond.methodLink RJ15 105 yJ3_checkIndex_8e157]
def wsX9_breakpoints_r14 : List Cond := [Cond.static yJ3_checkIndex_8e157, Cond.initialized RJ3, Cond.code yJ3_checkIndex_8e157 cJ3_checkIndex_8e157 3 (some .int), Cond.methodLink RJx4a65c 123 yJx4a65c_elementData_915e3, Cond.instanceMethod yJx4a65c_elementData_915e3, Cond.selects RJx4a65c yJx4a65c_elementData_915e3 yJx4a65c_elementData_915e3, Cond.code yJx4a65c_elementData_915e3 cJx4a65c_elementData_915e3 2 (some (.object "java/lang/Object")), Cond.methodLink RX1 86 yX4_clear, Cond.methodLink RX1 93 yX4_add, Cond.methodLink RX1 64 yX3_meets, Cond.instanceMethod yX3_meets, Cond.selects RX3 yX3_meets yX3_meets, Cond.code yX3_meets cX3_meets 2 (some .boolean), Cond.methodLink RX1 68 yX1_split, Cond.instanceMethod yX1_split, Cond.selects RX1 yX1_split yX1_split, Cond.code yX1_split cX1_split 13 none, Cond.constantLong RX1 104 (-1), Cond.fieldLink RX1 106 "ParametricFlow$Line" "start" "J", Cond.fieldLink RX1 113 "ParametricFlow$Line" "p" "J", Cond.fieldLink RX1 116 "ParametricFlow$Line" "q" "J", Cond.static yX9_commonDivisor, Cond.code yX9_commonDivisor cX9_commonDivisor 11 (some .long), Cond.methodLink RX9 208 Lib.MathLoose.abs_long.x]
def wsX9_breakpoints_r15 : List Cond := [Cond.methodLink RX1 119 yX1_addPiece, Cond.instanceMethod yX1_addPiece, Cond.selects RX1 yX1_addPiece yX1_addPiece, Cond.code yX1_addPiece cX1_addPiece 7 none, Cond.methodLink RX1 123 yX3_copy, Cond.instanceMethod yX3_copy, Cond.selects RX3 yX3_copy yX3_copy, Cond.code yX3_copy cX3_copy 2 none]
def wsX9_breakpoints : List Cond := .code yX9_breakpoints cX9_breakpoints 4 (some .int) :: ((wsX9_breakpoints_r1 ++ (wsX9_breakpoints_r2 ++ (wsX9_breakpoints_r3 ++ (wsX9_breakpoints_r4 ++ (wsX9_breakpoints_r5 ++ (wsX9_breakpoints_r6 ++ (wsX9_breakpoints_r7 ++ (wsX9_breakpoints_r8 ++ (wsX9_breakpoints_r9 ++ (wsX9_breakpoints_r10 ++ (wsX9_breakpoints_r11 ++ (wsX9_breakpoints_r12 ++ (wsX9_breakpoints_r13 ++ (wsX9_breakpoints_r14 ++ wsX9_breakpoints_r15)))))))))))))) ++ wsX90 ++ wsX10 ++ wsX40 ++ wsX30 ++ wsX50 ++ wsX70 ++ wsX00 ++ wsX80 ++ wsX20 ++ wsJx4a65c0)
def wsX9_breakpoint_r1 : List Cond := [Cond.fieldLink RX9 21 "ParametricFlow" "curve" "LParametricFlow$Curve;", Cond.fieldLink RX9 14 "ParametricFlow" "net" "LParametricFlow$Network;", Cond.fieldLink RX9 32 "ParametricFlow" "work" "LParametricFlow$Simplex;", Cond.constantLong RX9 147 (-9223372036854775808), Cond.fieldLink RX9 191 "ParametricFlow$Curve" "denominators" "LParametricFlow$Longs;", Cond.fieldLink RX9 188 "ParametricFlow$Curve" "numerators" "LParametricFlow$Longs;", Cond.methodLink RX9 181 yX9_isInterval, Cond.static yX9_isInterval, Cond.initialized RX9, Cond.code yX9_isInterval cX9_isInterval 2 (some .boolean), Cond.methodLink RX9 35 yX9_isWithin, Cond.static yX9_isWithin, Cond.code yX9_isWithin cX9_isWithin 3 (some .boolean), Cond.methodLink RX9 184 yX1_trace, Cond.instanceMethod yX1_trace, Cond.selects RX1 yX1_trace yX1_trace, Cond.initialized RX1, Cond.code yX1_trace cX1_trace 7 (some .int), Cond.fieldLink RX1 38 "ParametricFlow$Curve" "known" "Z", Cond.fieldLink RX1 42 "ParametricFlow$Curve" "low" "I", Cond.fieldLink RX1 46 "ParametricFlow$Curve" "high" "I", Cond.fieldLink RX1 49 "ParametricFlow$Curve" "answer" "I", Cond.fieldLink RX1 56 "ParametricFlow$Curve" "depth" "I", Cond.constant RX1 59 (1000000)]
def wsX9_breakpoint_r2 : List Cond := [Cond.fieldLink RX1 34 "ParametricFlow$Curve" "rights" "Ljava/util/ArrayList;", Cond.classLink RX1 24 "ParametricFlow$Line", Cond.fieldLink RX1 27 "ParametricFlow$Curve" "left" "LParametricFlow$Line;", Cond.methodLink RX1 52 yX1_begin, Cond.instanceMethod yX1_begin, Cond.selects RX1 yX1_begin yX1_begin, Cond.code yX1_begin cX1_begin 3 (some .int), Cond.fieldLink RX1 12 "ParametricFlow$Curve" "numerators" "LParametricFlow$Longs;", Cond.fieldLink RX1 18 "ParametricFlow$Curve" "denominators" "LParametricFlow$Longs;", Cond.fieldLink RX1 21 "ParametricFlow$Curve" "slopes" "LParametricFlow$Longs;", Cond.fieldLink RX1 89 "ParametricFlow$Line" "slope" "J", Cond.methodLink RX1 72 yX5_isBalanced, Cond.instanceMethod yX5_isBalanced, Cond.selects RX5 yX5_isBalanced yX5_isBalanced, Cond.initialized RX5, Cond.code yX5_isBalanced cX5_isBalanced 8 (some .boolean), Cond.fieldLink RX5 9 "ParametricFlow$Network" "nodes" "I", Cond.methodLink RX5 49 yX5_scaledSupply, Cond.instanceMethod yX5_scaledSupply, Cond.selects RX5 yX5_scaledSupply yX5_scaledSupply, Cond.code yX5_scaledSupply cX5_scaledSupply 6 (some .long), Cond.fieldLink RX5 15 "ParametricFlow$Network" "mode" "I", Cond.fieldLink RX5 18 "ParametricFlow$Network" "supply" "[I", Cond.fieldLink RX5 22 "ParametricFlow$Network" "supplySlope" "[I"]
def wsX9_breakpoint_r3 : List Cond := [Cond.methodLink RX1 78 yX3_touch, Cond.instanceMethod yX3_touch, Cond.selects RX3 yX3_touch yX3_touch, Cond.initialized RX3, Cond.code yX3_touch cX3_touch 7 (some .boolean), Cond.fieldLink RX3 15 "ParametricFlow$Line" "p" "J", Cond.fieldLink RX3 9 "ParametricFlow$Line" "q" "J", Cond.fieldLink RX3 28 "ParametricFlow$Line" "slope" "J", Cond.fieldLink RX3 31 "ParametricFlow$Simplex" "arcs" "LParametricFlow$Arcs;", Cond.fieldLink RX3 41 "ParametricFlow$Line" "start" "J", Cond.methodLink RX3 18 yX7_run, Cond.instanceMethod yX7_run, Cond.selects RX7 yX7_run yX7_run, Cond.initialized RX7, Cond.code yX7_run cX7_run 8 (some .int), Cond.fieldLink RX7 53 "ParametricFlow$Network" "mode" "I", Cond.fieldLink RX7 59 "ParametricFlow$Simplex" "mode" "I", Cond.fieldLink RX7 60 "ParametricFlow$Simplex" "p" "J", Cond.fieldLink RX7 9 "ParametricFlow$Simplex" "q" "J", Cond.fieldLink RX7 39 "ParametricFlow$Simplex" "entered" "LParametricFlow$Longs;", Cond.fieldLink RX7 43 "ParametricFlow$Simplex" "left" "LParametricFlow$Longs;", Cond.fieldLink RX7 18 "ParametricFlow$Simplex" "arcs" "LParametricFlow$Arcs;", Cond.fieldLink RX7 25 "ParametricFlow$Simplex" "tree" "LParametricFlow$Tree;", Cond.constant RX7 78 (1000000)]
def wsX9_breakpoint_r4 : List Cond := [Cond.fieldLink RX7 32 "ParametricFlow$Simplex" "cycle" "LParametricFlow$Cycle;", Cond.methodLink RX7 63 yX4_clear, Cond.instanceMethod yX4_clear, Cond.selects RX4 yX4_clear yX4_clear, Cond.initialized RX4, Cond.code yX4_clear cX4_clear 1 none, Cond.fieldLink RX4 15 "ParametricFlow$Longs" "size" "I", Cond.methodLink RX7 66 yX5_isBalanced, Cond.methodLink RX7 70 yX0_load, Cond.instanceMethod yX0_load, Cond.selects RX0 yX0_load yX0_load, Cond.initialized RX0, Cond.code yX0_load cX0_load 9 none, Cond.fieldLink RX0 31 "ParametricFlow$Network" "nodes" "I", Cond.fieldLink RX0 37 "ParametricFlow$Arcs" "nodes" "I", Cond.fieldLink RX0 38 "ParametricFlow$Network" "arcs" "I", Cond.fieldLink RX0 41 "ParametricFlow$Arcs" "count" "I", Cond.fieldLink RX0 9 "ParametricFlow$Arcs" "from" "[I", Cond.fieldLink RX0 44 "ParametricFlow$Network" "from" "[I", Cond.fieldLink RX0 15 "ParametricFlow$Arcs" "to" "[I", Cond.fieldLink RX0 45 "ParametricFlow$Network" "to" "[I", Cond.fieldLink RX0 18 "ParametricFlow$Arcs" "capacity" "[J", Cond.fieldLink RX0 22 "ParametricFlow$Arcs" "cost" "[J", Cond.fieldLink RX0 25 "ParametricFlow$Arcs" "flow" "[J"]
def wsX9_breakpoint_r5 : List Cond := [Cond.fieldLink RX0 28 "ParametricFlow$Arcs" "place" "[I", Cond.methodLink RX0 54 Lib.MathLoose.abs_long.x, Cond.static Lib.MathLoose.abs_long.x, Cond.initialized "java/lang/Math", Cond.code Lib.MathLoose.abs_long.x Lib.MathLoose.abs_long.code 2 (some .long), Cond.methodLink RX0 60 Lib.MathLoose.max_long.x, Cond.static Lib.MathLoose.max_long.x, Cond.code Lib.MathLoose.max_long.x Lib.MathLoose.max_long.code 4 (some .long), Cond.methodLink RX0 46 yX5_scaledCapacity, Cond.instanceMethod yX5_scaledCapacity, Cond.selects RX5 yX5_scaledCapacity yX5_scaledCapacity, Cond.code yX5_scaledCapacity cX5_scaledCapacity 4 (some .long), Cond.fieldLink RX5 31 "ParametricFlow$Network" "capacity" "[I", Cond.methodLink RX0 50 yX5_scaledCost, Cond.instanceMethod yX5_scaledCost, Cond.selects RX5 yX5_scaledCost yX5_scaledCost, Cond.code yX5_scaledCost cX5_scaledCost 6 (some .long), Cond.fieldLink RX5 34 "ParametricFlow$Network" "cost" "[I", Cond.fieldLink RX5 37 "ParametricFlow$Network" "slope" "[I", Cond.methodLink RX0 64 yX5_scaledSupply, Cond.methodLink RX0 67 yX0_loadArtificial, Cond.instanceMethod yX0_loadArtificial, Cond.selects RX0 yX0_loadArtificial yX0_loadArtificial, Cond.code yX0_loadArtificial cX0_loadArtificial 7 none]
def wsX9_breakpoint_r6 : List Cond := [Cond.constantLong RX0 71 (1152921504606846976), Cond.methodLink RX7 74 yX8_plant, Cond.instanceMethod yX8_plant, Cond.selects RX8 yX8_plant yX8_plant, Cond.initialized RX8, Cond.code yX8_plant cX8_plant 3 none, Cond.fieldLink RX8 34 "ParametricFlow$Arcs" "nodes" "I", Cond.fieldLink RX8 40 "ParametricFlow$Tree" "root" "I", Cond.fieldLink RX8 9 "ParametricFlow$Tree" "parent" "[I", Cond.fieldLink RX8 18 "ParametricFlow$Tree" "depth" "[I", Cond.fieldLink RX8 21 "ParametricFlow$Tree" "potential" "[J", Cond.fieldLink RX8 15 "ParametricFlow$Tree" "link" "[I", Cond.methodLink RX7 79 yX8_measure, Cond.instanceMethod yX8_measure, Cond.selects RX8 yX8_measure yX8_measure, Cond.code yX8_measure cX8_measure 8 none, Cond.fieldLink RX8 43 "ParametricFlow$Arcs" "from" "[I", Cond.fieldLink RX8 46 "ParametricFlow$Arcs" "cost" "[J", Cond.methodLink RX7 82 yX7_entering, Cond.instanceMethod yX7_entering, Cond.selects RX7 yX7_entering yX7_entering, Cond.code yX7_entering cX7_entering 7 (some .int), Cond.fieldLink RX7 120 "ParametricFlow$Arcs" "count" "I", Cond.fieldLink RX7 123 "ParametricFlow$Arcs" "place" "[I"]
def wsX9_breakpoint_r7 : List Cond := [Cond.methodLink RX7 126 yX7_reduced, Cond.instanceMethod yX7_reduced, Cond.selects RX7 yX7_reduced yX7_reduced, Cond.code yX7_reduced cX7_reduced 2 (some .long), Cond.fieldLink RX7 106 "ParametricFlow$Arcs" "cost" "[J", Cond.fieldLink RX7 110 "ParametricFlow$Tree" "potential" "[J", Cond.fieldLink RX7 113 "ParametricFlow$Arcs" "from" "[I", Cond.fieldLink RX7 117 "ParametricFlow$Arcs" "to" "[I", Cond.methodLink RX7 86 yX2_close, Cond.instanceMethod yX2_close, Cond.selects RX2 yX2_close yX2_close, Cond.initialized RX2, Cond.code yX2_close cX2_close 8 none, Cond.fieldLink RX2 9 "ParametricFlow$Cycle" "row" "I", Cond.fieldLink RX2 15 "ParametricFlow$Arcs" "place" "[I", Cond.fieldLink RX2 21 "ParametricFlow$Cycle" "along" "Z", Cond.fieldLink RX2 25 "ParametricFlow$Arcs" "from" "[I", Cond.fieldLink RX2 28 "ParametricFlow$Arcs" "to" "[I", Cond.fieldLink RX2 31 "ParametricFlow$Cycle" "tail" "I", Cond.fieldLink RX2 34 "ParametricFlow$Cycle" "head" "I", Cond.fieldLink RX2 43 "ParametricFlow$Cycle" "apex" "I", Cond.fieldLink RX2 49 "ParametricFlow$Cycle" "least" "J", Cond.fieldLink RX2 53 "ParametricFlow$Cycle" "cut" "I", Cond.fieldLink RX2 56 "ParametricFlow$Cycle" "cutAhead" "Z"]
def wsX9_breakpoint_r8 : List Cond := [Cond.fieldLink RX2 59 "ParametricFlow$Tree" "link" "[I", Cond.fieldLink RX2 66 "ParametricFlow$Tree" "parent" "[I", Cond.methodLink RX2 37 yX8_apex, Cond.instanceMethod yX8_apex, Cond.selects RX8 yX8_apex yX8_apex, Cond.code yX8_apex cX8_apex 6 (some .int), Cond.methodLink RX2 45 yX0_room, Cond.instanceMethod yX0_room, Cond.selects RX0 yX0_room yX0_room, Cond.code yX0_room cX0_room 3 (some .long), Cond.methodLink RX2 62 yX8_leadsUp, Cond.instanceMethod yX8_leadsUp, Cond.selects RX8 yX8_leadsUp yX8_leadsUp, Cond.code yX8_leadsUp cX8_leadsUp 3 (some .boolean), Cond.methodLink RX7 90 yX2_push, Cond.instanceMethod yX2_push, Cond.selects RX2 yX2_push yX2_push, Cond.code yX2_push cX2_push 5 none, Cond.methodLink RX2 69 yX0_push, Cond.instanceMethod yX0_push, Cond.selects RX0 yX0_push yX0_push, Cond.code yX0_push cX0_push 5 none, Cond.methodLink RX7 94 yX4_add, Cond.instanceMethod yX4_add]
def wsX9_breakpoint_r9 : List Cond := [Cond.selects RX4 yX4_add yX4_add, Cond.code yX4_add cX4_add 3 none, Cond.fieldLink RX4 9 "ParametricFlow$Longs" "items" "[J", Cond.constant RX4 19 (1000000), Cond.methodLink RX4 20 yJ7_copyOf_c38d5, Cond.static yJ7_copyOf_c38d5, Cond.initialized RJ7, Cond.code yJ7_copyOf_c38d5 cJ7_copyOf_c38d5 3 (some (.array .long)), Cond.methodLink RJ7 319 ⟨"[J", "clone", "()Ljava/lang/Object;"⟩, Cond.sameMethod "[J" "java/lang/Object" "clone" "()Ljava/lang/Object;", Cond.native ⟨"java/lang/Object", "clone", "()Ljava/lang/Object;"⟩, Cond.instanceMethod ⟨"java/lang/Object", "clone", "()Ljava/lang/Object;"⟩, Cond.selects "[J" ⟨"[J", "clone", "()Ljava/lang/Object;"⟩ ⟨"java/lang/Object", "clone", "()Ljava/lang/Object;"⟩, Cond.classLink RJ7 320 "[J", Cond.arrayClass .long, Cond.methodLink RJ7 304 Lib.Math.min.name, Cond.static Lib.Math.min.name, Cond.code Lib.Math.min.name Lib.Math.min.code 2 (some .int), Cond.methodLink RJ7 150 arraycopyName, Cond.native arraycopyName, Cond.static arraycopyName, Cond.initialized "java/lang/System", Cond.methodLink RX7 98 yX2_exchange, Cond.instanceMethod yX2_exchange]
def wsX9_breakpoint_r10 : List Cond := [Cond.selects RX2 yX2_exchange yX2_exchange, Cond.code yX2_exchange cX2_exchange 4 (some .int), Cond.methodLink RX2 73 yX0_putAtBound, Cond.instanceMethod yX0_putAtBound, Cond.selects RX0 yX0_putAtBound yX0_putAtBound, Cond.code yX0_putAtBound cX0_putAtBound 2 none, Cond.methodLink RX2 77 yX8_rehang, Cond.instanceMethod yX8_rehang, Cond.selects RX8 yX8_rehang yX8_rehang, Cond.code yX8_rehang cX8_rehang 11 none, Cond.methodLink RX7 102 yX0_hasArtificialFlow, Cond.instanceMethod yX0_hasArtificialFlow, Cond.selects RX0 yX0_hasArtificialFlow yX0_hasArtificialFlow, Cond.code yX0_hasArtificialFlow cX0_hasArtificialFlow 2 (some .boolean), Cond.methodLink RX3 24 yX7_rate, Cond.instanceMethod yX7_rate, Cond.selects RX7 yX7_rate yX7_rate, Cond.code yX7_rate cX7_rate 5 (some .long), Cond.fieldLink RX7 130 "ParametricFlow$Arcs" "flow" "[J", Cond.fieldLink RX7 133 "ParametricFlow$Network" "slope" "[I", Cond.fieldLink RX7 136 "ParametricFlow$Arcs" "nodes" "I", Cond.fieldLink RX7 139 "ParametricFlow$Network" "supplySlope" "[I", Cond.methodLink RX3 35 yX0_totalCost, Cond.instanceMethod yX0_totalCost]
def wsX9_breakpoint_r11 : List Cond := [Cond.selects RX0 yX0_totalCost yX0_totalCost, Cond.code yX0_totalCost cX0_totalCost 4 (some .long), Cond.methodLink RX1 82 yX1_nextRight, Cond.instanceMethod yX1_nextRight, Cond.selects RX1 yX1_nextRight yX1_nextRight, Cond.code yX1_nextRight cX1_nextRight 1 (some (.object "ParametricFlow$Line")), Cond.classLink RX1 24 RX3, Cond.instantiable RX3 4, Cond.methodLink RX1 97 yJx4a65c_size_8abf5, Cond.instanceMethod yJx4a65c_size_8abf5, Cond.selects RJx4a65c yJx4a65c_size_8abf5 yJx4a65c_size_8abf5, Cond.initialized RJx4a65c, Cond.code yJx4a65c_size_8abf5 cJx4a65c_size_8abf5 1 (some .int), Cond.fieldLink RJx4a65c 48 "java/util/ArrayList" "size" "I", Cond.instanceMethod yX3_init, Cond.code yX3_init cX3_init 1 none, Cond.methodLink RX3 3 objectInit, Cond.instanceMethod objectInit, Cond.code objectInit ⟨#[0xb1]⟩ 1 none, Cond.methodLink RX1 101 yJx4a65c_add_9ea2d, Cond.instanceMethod yJx4a65c_add_9ea2d, Cond.selects RJx4a65c yJx4a65c_add_9ea2d yJx4a65c_add_9ea2d, Cond.code yJx4a65c_add_9ea2d cJx4a65c_add_9ea2d 2 (some .boolean), Cond.fieldLink RJx4a65c 63 "java/util/ArrayList" "modCount" "I"]
def wsX9_breakpoint_r12 : List Cond := [Cond.sameField "java/util/ArrayList" "java/util/AbstractList" "modCount" "I", Cond.fieldLink RJx4a65c 9 "java/util/ArrayList" "elementData" "[Ljava/lang/Object;", Cond.methodLink RJx4a65c 131 yJx4a65c_add_72be8, Cond.instanceMethod yJx4a65c_add_72be8, Cond.selects RJx4a65c yJx4a65c_add_72be8 yJx4a65c_add_72be8, Cond.code yJx4a65c_add_72be8 cJx4a65c_add_72be8 4 none, Cond.methodLink RJx4a65c 129 yJx4a65c_grow_d5877, Cond.instanceMethod yJx4a65c_grow_d5877, Cond.selects RJx4a65c yJx4a65c_grow_d5877 yJx4a65c_grow_d5877, Cond.code yJx4a65c_grow_d5877 cJx4a65c_grow_d5877 1 (some (.array (.object "java/lang/Object"))), Cond.methodLink RJx4a65c 69 yJx4a65c_grow_92f84, Cond.instanceMethod yJx4a65c_grow_92f84, Cond.selects RJx4a65c yJx4a65c_grow_92f84 yJx4a65c_grow_92f84, Cond.code yJx4a65c_grow_92f84 cJx4a65c_grow_92f84 4 (some (.array (.object "java/lang/Object"))), Cond.fieldLink RJx4a65c 39 "java/util/ArrayList" "DEFAULTCAPACITY_EMPTY_ELEMENTDATA" "[Ljava/lang/Object;", Cond.methodLink RJx4a65c 79 Lib.Math.max.name, Cond.static Lib.Math.max.name, Cond.code Lib.Math.max.name Lib.Math.max.code 2 (some .int), Cond.classLink RJx4a65c 7 "java/lang/Object", Cond.methodLink RJx4a65c 73 yJ8_newLength_cabcc, Cond.static yJ8_newLength_cabcc, Cond.initialized RJ8, Cond.code yJ8_newLength_cabcc cJ8_newLength_cabcc 4 (some .int), Cond.methodLink RJ8 194 Lib.Math.max.name]
def wsX9_breakpoint_r13 : List Cond := [Cond.constant RJ8 200 (2147483639), Cond.methodLink RJ8 201 yJ8_hugeLength_7cf53, Cond.static yJ8_hugeLength_7cf53, Cond.code yJ8_hugeLength_7cf53 cJ8_hugeLength_7cf53 3 (some .int), Cond.methodLink RJx4a65c 66 yJ7_copyOf_1904c, Cond.static yJ7_copyOf_1904c, Cond.code yJ7_copyOf_1904c cJ7_copyOf_1904c 2 (some (.array (.object "java/lang/Object"))), Cond.methodLink RJ7 86 ⟨"java/lang/Object", "getClass", "()Ljava/lang/Class;"⟩, Cond.selects "[Ljava/lang/Object;" ⟨"java/lang/Object", "getClass", "()Ljava/lang/Class;"⟩ ⟨"java/lang/Object", "getClass", "()Ljava/lang/Class;"⟩, Cond.instanceMethod ⟨"java/lang/Object", "getClass", "()Ljava/lang/Class;"⟩, Cond.native ⟨"java/lang/Object", "getClass", "()Ljava/lang/Class;"⟩, Cond.methodLink RJ7 300 yJ7_copyOf_6403c, Cond.static yJ7_copyOf_6403c, Cond.code yJ7_copyOf_6403c cJ7_copyOf_6403c 4 (some (.array (.object "java/lang/Object"))), Cond.classLink RJ7 110 "[Ljava/lang/Object;", Cond.classLink RJ7 2 "java/lang/Object", Cond.methodLink RX1 60 yJx4a65c_get_915e3, Cond.instanceMethod yJx4a65c_get_915e3, Cond.selects RJx4a65c yJx4a65c_get_915e3 yJx4a65c_get_915e3, Cond.code yJx4a65c_get_915e3 cJx4a65c_get_915e3 2 (some (.object "java/lang/Object")), Cond.methodLink RJx4a65c 118 yJ15_checkIndex_7cf53, Cond.static yJ15_checkIndex_7cf53, Cond.initialized RJ15, Cond.code yJ15_checkIndex_7cf53 cJ15_checkIndex_7cf53 2 (some .int)]
def wsX9_breakpoint_r14 : List Cond := [Cond.methodLink RJ15 105 yJ3_checkIndex_8e157, Cond.static yJ3_checkIndex_8e157, Cond.initialized RJ3, Cond.code yJ3_checkIndex_8e157 cJ3_checkIndex_8e157 3 (some .int), Cond.methodLink RJx4a65c 123 yJx4a65c_elementData_915e3, Cond.instanceMethod yJx4a65c_elementData_915e3, Cond.selects RJx4a65c yJx4a65c_elementData_915e3 yJx4a65c_elementData_915e3, Cond.code yJx4a65c_elementData_915e3 cJx4a65c_elementData_915e3 2 (some (.object "java/lang/Object")), Cond.methodLink RX1 86 yX4_clear, Cond.methodLink RX1 93 yX4_add, Cond.methodLink RX1 64 yX3_meets, Cond.instanceMethod yX3_meets, Cond.selects RX3 yX3_meets yX3_meets, Cond.code yX3_meets cX3_meets 2 (some .boolean), Cond.methodLink RX1 68 yX1_split, Cond.instanceMethod yX1_split, Cond.selects RX1 yX1_split yX1_split, Cond.code yX1_split cX1_split 13 none, Cond.constantLong RX1 104 (-1), Cond.fieldLink RX1 106 "ParametricFlow$Line" "start" "J", Cond.fieldLink RX1 113 "ParametricFlow$Line" "p" "J", Cond.fieldLink RX1 116 "ParametricFlow$Line" "q" "J", Cond.static yX9_commonDivisor, Cond.code yX9_commonDivisor cX9_commonDivisor 11 (some .long)]
def wsX9_breakpoint_r15 : List Cond := [Cond.methodLink RX9 208 Lib.MathLoose.abs_long.x, Cond.methodLink RX1 119 yX1_addPiece, Cond.instanceMethod yX1_addPiece, Cond.selects RX1 yX1_addPiece yX1_addPiece, Cond.code yX1_addPiece cX1_addPiece 7 none, Cond.methodLink RX1 123 yX3_copy, Cond.instanceMethod yX3_copy, Cond.selects RX3 yX3_copy yX3_copy, Cond.code yX3_copy cX3_copy 2 none, Cond.methodLink RX9 122 yX4_at, Cond.instanceMethod yX4_at, Cond.selects RX4 yX4_at yX4_at, Cond.code yX4_at cX4_at 2 (some .long), Cond.constantLong RX4 26 (-9223372036854775808)]
def wsX9_breakpoint : List Cond := .code yX9_breakpoint cX9_breakpoint 5 (some .long) :: ((wsX9_breakpoint_r1 ++ (wsX9_breakpoint_r2 ++ (wsX9_breakpoint_r3 ++ (wsX9_breakpoint_r4 ++ (wsX9_breakpoint_r5 ++ (wsX9_breakpoint_r6 ++ (wsX9_breakpoint_r7 ++ (wsX9_breakpoint_r8 ++ (wsX9_breakpoint_r9 ++ (wsX9_breakpoint_r10 ++ (wsX9_breakpoint_r11 ++ (wsX9_breakpoint_r12 ++ (wsX9_breakpoint_r13 ++ (wsX9_breakpoint_r14 ++ wsX9_breakpoint_r15)))))))))))))) ++ wsX90 ++ wsX10 ++ wsX30 ++ wsX50 ++ wsX70 ++ wsX40 ++ wsX00 ++ wsX80 ++ wsX20 ++ wsJx4a65c0)
def wsX9_slope_r1 : List Cond := [Cond.fieldLink RX9 21 "ParametricFlow" "curve" "LParametricFlow$Curve;", Cond.fieldLink RX9 14 "ParametricFlow" "net" "LParametricFlow$Network;", Cond.fieldLink RX9 32 "ParametricFlow" "work" "LParametricFlow$Simplex;", Cond.constantLong RX9 147 (-9223372036854775808), Cond.fieldLink RX9 194 "ParametricFlow$Curve" "slopes" "LParametricFlow$Longs;", Cond.methodLink RX9 181 yX9_isInterval, Cond.static yX9_isInterval, Cond.initialized RX9, Cond.code yX9_isInterval cX9_isInterval 2 (some .boolean), Cond.methodLink RX9 35 yX9_isWithin, Cond.static yX9_isWithin, Cond.code yX9_isWithin cX9_isWithin 3 (some .boolean), Cond.methodLink RX9 184 yX1_trace, Cond.instanceMethod yX1_trace, Cond.selects RX1 yX1_trace yX1_trace, Cond.initialized RX1, Cond.code yX1_trace cX1_trace 7 (some .int), Cond.fieldLink RX1 38 "ParametricFlow$Curve" "known" "Z", Cond.fieldLink RX1 42 "ParametricFlow$Curve" "low" "I", Cond.fieldLink RX1 46 "ParametricFlow$Curve" "high" "I", Cond.fieldLink RX1 49 "ParametricFlow$Curve" "answer" "I", Cond.fieldLink RX1 56 "ParametricFlow$Curve" "depth" "I", Cond.constant RX1 59 (1000000), Cond.fieldLink RX1 34 "ParametricFlow$Curve" "rights" "Ljava/util/ArrayList;"]
def wsX9_slope_r2 : List Cond := [Cond.classLink RX1 24 "ParametricFlow$Line", Cond.fieldLink RX1 27 "ParametricFlow$Curve" "left" "LParametricFlow$Line;", Cond.methodLink RX1 52 yX1_begin, Cond.instanceMethod yX1_begin, Cond.selects RX1 yX1_begin yX1_begin, Cond.code yX1_begin cX1_begin 3 (some .int), Cond.fieldLink RX1 12 "ParametricFlow$Curve" "numerators" "LParametricFlow$Longs;", Cond.fieldLink RX1 18 "ParametricFlow$Curve" "denominators" "LParametricFlow$Longs;", Cond.fieldLink RX1 21 "ParametricFlow$Curve" "slopes" "LParametricFlow$Longs;", Cond.fieldLink RX1 89 "ParametricFlow$Line" "slope" "J", Cond.methodLink RX1 72 yX5_isBalanced, Cond.instanceMethod yX5_isBalanced, Cond.selects RX5 yX5_isBalanced yX5_isBalanced, Cond.initialized RX5, Cond.code yX5_isBalanced cX5_isBalanced 8 (some .boolean), Cond.fieldLink RX5 9 "ParametricFlow$Network" "nodes" "I", Cond.methodLink RX5 49 yX5_scaledSupply, Cond.instanceMethod yX5_scaledSupply, Cond.selects RX5 yX5_scaledSupply yX5_scaledSupply, Cond.code yX5_scaledSupply cX5_scaledSupply 6 (some .long), Cond.fieldLink RX5 15 "ParametricFlow$Network" "mode" "I", Cond.fieldLink RX5 18 "ParametricFlow$Network" "supply" "[I", Cond.fieldLink RX5 22 "ParametricFlow$Network" "supplySlope" "[I", Cond.methodLink RX1 78 yX3_touch]
def wsX9_slope_r3 : List Cond := [Cond.instanceMethod yX3_touch, Cond.selects RX3 yX3_touch yX3_touch, Cond.initialized RX3, Cond.code yX3_touch cX3_touch 7 (some .boolean), Cond.fieldLink RX3 15 "ParametricFlow$Line" "p" "J", Cond.fieldLink RX3 9 "ParametricFlow$Line" "q" "J", Cond.fieldLink RX3 28 "ParametricFlow$Line" "slope" "J", Cond.fieldLink RX3 31 "ParametricFlow$Simplex" "arcs" "LParametricFlow$Arcs;", Cond.fieldLink RX3 41 "ParametricFlow$Line" "start" "J", Cond.methodLink RX3 18 yX7_run, Cond.instanceMethod yX7_run, Cond.selects RX7 yX7_run yX7_run, Cond.initialized RX7, Cond.code yX7_run cX7_run 8 (some .int), Cond.fieldLink RX7 53 "ParametricFlow$Network" "mode" "I", Cond.fieldLink RX7 59 "ParametricFlow$Simplex" "mode" "I", Cond.fieldLink RX7 60 "ParametricFlow$Simplex" "p" "J", Cond.fieldLink RX7 9 "ParametricFlow$Simplex" "q" "J", Cond.fieldLink RX7 39 "ParametricFlow$Simplex" "entered" "LParametricFlow$Longs;", Cond.fieldLink RX7 43 "ParametricFlow$Simplex" "left" "LParametricFlow$Longs;", Cond.fieldLink RX7 18 "ParametricFlow$Simplex" "arcs" "LParametricFlow$Arcs;", Cond.fieldLink RX7 25 "ParametricFlow$Simplex" "tree" "LParametricFlow$Tree;", Cond.constant RX7 78 (1000000), Cond.fieldLink RX7 32 "ParametricFlow$Simplex" "cycle" "LParametricFlow$Cycle;"]
def wsX9_slope_r4 : List Cond := [Cond.methodLink RX7 63 yX4_clear, Cond.instanceMethod yX4_clear, Cond.selects RX4 yX4_clear yX4_clear, Cond.initialized RX4, Cond.code yX4_clear cX4_clear 1 none, Cond.fieldLink RX4 15 "ParametricFlow$Longs" "size" "I", Cond.methodLink RX7 66 yX5_isBalanced, Cond.methodLink RX7 70 yX0_load, Cond.instanceMethod yX0_load, Cond.selects RX0 yX0_load yX0_load, Cond.initialized RX0, Cond.code yX0_load cX0_load 9 none, Cond.fieldLink RX0 31 "ParametricFlow$Network" "nodes" "I", Cond.fieldLink RX0 37 "ParametricFlow$Arcs" "nodes" "I", Cond.fieldLink RX0 38 "ParametricFlow$Network" "arcs" "I", Cond.fieldLink RX0 41 "ParametricFlow$Arcs" "count" "I", Cond.fieldLink RX0 9 "ParametricFlow$Arcs" "from" "[I", Cond.fieldLink RX0 44 "ParametricFlow$Network" "from" "[I", Cond.fieldLink RX0 15 "ParametricFlow$Arcs" "to" "[I", Cond.fieldLink RX0 45 "ParametricFlow$Network" "to" "[I", Cond.fieldLink RX0 18 "ParametricFlow$Arcs" "capacity" "[J", Cond.fieldLink RX0 22 "ParametricFlow$Arcs" "cost" "[J", Cond.fieldLink RX0 25 "ParametricFlow$Arcs" "flow" "[J", Cond.fieldLink RX0 28 "ParametricFlow$Arcs" "place" "[I"]
def wsX9_slope_r5 : List Cond := [Cond.methodLink RX0 54 Lib.MathLoose.abs_long.x, Cond.static Lib.MathLoose.abs_long.x, Cond.initialized "java/lang/Math", Cond.code Lib.MathLoose.abs_long.x Lib.MathLoose.abs_long.code 2 (some .long), Cond.methodLink RX0 60 Lib.MathLoose.max_long.x, Cond.static Lib.MathLoose.max_long.x, Cond.code Lib.MathLoose.max_long.x Lib.MathLoose.max_long.code 4 (some .long), Cond.methodLink RX0 46 yX5_scaledCapacity, Cond.instanceMethod yX5_scaledCapacity, Cond.selects RX5 yX5_scaledCapacity yX5_scaledCapacity, Cond.code yX5_scaledCapacity cX5_scaledCapacity 4 (some .long), Cond.fieldLink RX5 31 "ParametricFlow$Network" "capacity" "[I", Cond.methodLink RX0 50 yX5_scaledCost, Cond.instanceMethod yX5_scaledCost, Cond.selects RX5 yX5_scaledCost yX5_scaledCost, Cond.code yX5_scaledCost cX5_scaledCost 6 (some .long), Cond.fieldLink RX5 34 "ParametricFlow$Network" "cost" "[I", Cond.fieldLink RX5 37 "ParametricFlow$Network" "slope" "[I", Cond.methodLink RX0 64 yX5_scaledSupply, Cond.methodLink RX0 67 yX0_loadArtificial, Cond.instanceMethod yX0_loadArtificial, Cond.selects RX0 yX0_loadArtificial yX0_loadArtificial, Cond.code yX0_loadArtificial cX0_loadArtificial 7 none, Cond.constantLong RX0 71 (1152921504606846976)]
def wsX9_slope_r6 : List Cond := [Cond.methodLink RX7 74 yX8_plant, Cond.instanceMethod yX8_plant, Cond.selects RX8 yX8_plant yX8_plant, Cond.initialized RX8, Cond.code yX8_plant cX8_plant 3 none, Cond.fieldLink RX8 34 "ParametricFlow$Arcs" "nodes" "I", Cond.fieldLink RX8 40 "ParametricFlow$Tree" "root" "I", Cond.fieldLink RX8 9 "ParametricFlow$Tree" "parent" "[I", Cond.fieldLink RX8 18 "ParametricFlow$Tree" "depth" "[I", Cond.fieldLink RX8 21 "ParametricFlow$Tree" "potential" "[J", Cond.fieldLink RX8 15 "ParametricFlow$Tree" "link" "[I", Cond.methodLink RX7 79 yX8_measure, Cond.instanceMethod yX8_measure, Cond.selects RX8 yX8_measure yX8_measure, Cond.code yX8_measure cX8_measure 8 none, Cond.fieldLink RX8 43 "ParametricFlow$Arcs" "from" "[I", Cond.fieldLink RX8 46 "ParametricFlow$Arcs" "cost" "[J", Cond.methodLink RX7 82 yX7_entering, Cond.instanceMethod yX7_entering, Cond.selects RX7 yX7_entering yX7_entering, Cond.code yX7_entering cX7_entering 7 (some .int), Cond.fieldLink RX7 120 "ParametricFlow$Arcs" "count" "I", Cond.fieldLink RX7 123 "ParametricFlow$Arcs" "place" "[I", Cond.methodLink RX7 126 yX7_reduced]
def wsX9_slope_r7 : List Cond := [Cond.instanceMethod yX7_reduced, Cond.selects RX7 yX7_reduced yX7_reduced, Cond.code yX7_reduced cX7_reduced 2 (some .long), Cond.fieldLink RX7 106 "ParametricFlow$Arcs" "cost" "[J", Cond.fieldLink RX7 110 "ParametricFlow$Tree" "potential" "[J", Cond.fieldLink RX7 113 "ParametricFlow$Arcs" "from" "[I", Cond.fieldLink RX7 117 "ParametricFlow$Arcs" "to" "[I", Cond.methodLink RX7 86 yX2_close, Cond.instanceMethod yX2_close, Cond.selects RX2 yX2_close yX2_close, Cond.initialized RX2, Cond.code yX2_close cX2_close 8 none, Cond.fieldLink RX2 9 "ParametricFlow$Cycle" "row" "I", Cond.fieldLink RX2 15 "ParametricFlow$Arcs" "place" "[I", Cond.fieldLink RX2 21 "ParametricFlow$Cycle" "along" "Z", Cond.fieldLink RX2 25 "ParametricFlow$Arcs" "from" "[I", Cond.fieldLink RX2 28 "ParametricFlow$Arcs" "to" "[I", Cond.fieldLink RX2 31 "ParametricFlow$Cycle" "tail" "I", Cond.fieldLink RX2 34 "ParametricFlow$Cycle" "head" "I", Cond.fieldLink RX2 43 "ParametricFlow$Cycle" "apex" "I", Cond.fieldLink RX2 49 "ParametricFlow$Cycle" "least" "J", Cond.fieldLink RX2 53 "ParametricFlow$Cycle" "cut" "I", Cond.fieldLink RX2 56 "ParametricFlow$Cycle" "cutAhead" "Z", Cond.fieldLink RX2 59 "ParametricFlow$Tree" "link" "[I"]
def wsX9_slope_r8 : List Cond := [Cond.fieldLink RX2 66 "ParametricFlow$Tree" "parent" "[I", Cond.methodLink RX2 37 yX8_apex, Cond.instanceMethod yX8_apex, Cond.selects RX8 yX8_apex yX8_apex, Cond.code yX8_apex cX8_apex 6 (some .int), Cond.methodLink RX2 45 yX0_room, Cond.instanceMethod yX0_room, Cond.selects RX0 yX0_room yX0_room, Cond.code yX0_room cX0_room 3 (some .long), Cond.methodLink RX2 62 yX8_leadsUp, Cond.instanceMethod yX8_leadsUp, Cond.selects RX8 yX8_leadsUp yX8_leadsUp, Cond.code yX8_leadsUp cX8_leadsUp 3 (some .boolean), Cond.methodLink RX7 90 yX2_push, Cond.instanceMethod yX2_push, Cond.selects RX2 yX2_push yX2_push, Cond.code yX2_push cX2_push 5 none, Cond.methodLink RX2 69 yX0_push, Cond.instanceMethod yX0_push, Cond.selects RX0 yX0_push yX0_push, Cond.code yX0_push cX0_push 5 none, Cond.methodLink RX7 94 yX4_add, Cond.instanceMethod yX4_add, Cond.selects RX4 yX4_add yX4_add]
def wsX9_slope_r9 : List Cond := [Cond.code yX4_add cX4_add 3 none, Cond.fieldLink RX4 9 "ParametricFlow$Longs" "items" "[J", Cond.constant RX4 19 (1000000), Cond.methodLink RX4 20 yJ7_copyOf_c38d5, Cond.static yJ7_copyOf_c38d5, Cond.initialized RJ7, Cond.code yJ7_copyOf_c38d5 cJ7_copyOf_c38d5 3 (some (.array .long)), Cond.methodLink RJ7 319 ⟨"[J", "clone", "()Ljava/lang/Object;"⟩, Cond.sameMethod "[J" "java/lang/Object" "clone" "()Ljava/lang/Object;", Cond.native ⟨"java/lang/Object", "clone", "()Ljava/lang/Object;"⟩, Cond.instanceMethod ⟨"java/lang/Object", "clone", "()Ljava/lang/Object;"⟩, Cond.selects "[J" ⟨"[J", "clone", "()Ljava/lang/Object;"⟩ ⟨"java/lang/Object", "clone", "()Ljava/lang/Object;"⟩, Cond.classLink RJ7 320 "[J", Cond.arrayClass .long, Cond.methodLink RJ7 304 Lib.Math.min.name, Cond.static Lib.Math.min.name, Cond.code Lib.Math.min.name Lib.Math.min.code 2 (some .int), Cond.methodLink RJ7 150 arraycopyName, Cond.native arraycopyName, Cond.static arraycopyName, Cond.initialized "java/lang/System", Cond.methodLink RX7 98 yX2_exchange, Cond.instanceMethod yX2_exchange, Cond.selects RX2 yX2_exchange yX2_exchange]
def wsX9_slope_r10 : List Cond := [Cond.code yX2_exchange cX2_exchange 4 (some .int), Cond.methodLink RX2 73 yX0_putAtBound, Cond.instanceMethod yX0_putAtBound, Cond.selects RX0 yX0_putAtBound yX0_putAtBound, Cond.code yX0_putAtBound cX0_putAtBound 2 none, Cond.methodLink RX2 77 yX8_rehang, Cond.instanceMethod yX8_rehang, Cond.selects RX8 yX8_rehang yX8_rehang, Cond.code yX8_rehang cX8_rehang 11 none, Cond.methodLink RX7 102 yX0_hasArtificialFlow, Cond.instanceMethod yX0_hasArtificialFlow, Cond.selects RX0 yX0_hasArtificialFlow yX0_hasArtificialFlow, Cond.code yX0_hasArtificialFlow cX0_hasArtificialFlow 2 (some .boolean), Cond.methodLink RX3 24 yX7_rate, Cond.instanceMethod yX7_rate, Cond.selects RX7 yX7_rate yX7_rate, Cond.code yX7_rate cX7_rate 5 (some .long), Cond.fieldLink RX7 130 "ParametricFlow$Arcs" "flow" "[J", Cond.fieldLink RX7 133 "ParametricFlow$Network" "slope" "[I", Cond.fieldLink RX7 136 "ParametricFlow$Arcs" "nodes" "I", Cond.fieldLink RX7 139 "ParametricFlow$Network" "supplySlope" "[I", Cond.methodLink RX3 35 yX0_totalCost, Cond.instanceMethod yX0_totalCost, Cond.selects RX0 yX0_totalCost yX0_totalCost]
def wsX9_slope_r11 : List Cond := [Cond.code yX0_totalCost cX0_totalCost 4 (some .long), Cond.methodLink RX1 82 yX1_nextRight, Cond.instanceMethod yX1_nextRight, Cond.selects RX1 yX1_nextRight yX1_nextRight, Cond.code yX1_nextRight cX1_nextRight 1 (some (.object "ParametricFlow$Line")), Cond.classLink RX1 24 RX3, Cond.instantiable RX3 4, Cond.methodLink RX1 97 yJx4a65c_size_8abf5, Cond.instanceMethod yJx4a65c_size_8abf5, Cond.selects RJx4a65c yJx4a65c_size_8abf5 yJx4a65c_size_8abf5, Cond.initialized RJx4a65c, Cond.code yJx4a65c_size_8abf5 cJx4a65c_size_8abf5 1 (some .int), Cond.fieldLink RJx4a65c 48 "java/util/ArrayList" "size" "I", Cond.instanceMethod yX3_init, Cond.code yX3_init cX3_init 1 none, Cond.methodLink RX3 3 objectInit, Cond.instanceMethod objectInit, Cond.code objectInit ⟨#[0xb1]⟩ 1 none, Cond.methodLink RX1 101 yJx4a65c_add_9ea2d, Cond.instanceMethod yJx4a65c_add_9ea2d, Cond.selects RJx4a65c yJx4a65c_add_9ea2d yJx4a65c_add_9ea2d, Cond.code yJx4a65c_add_9ea2d cJx4a65c_add_9ea2d 2 (some .boolean), Cond.fieldLink RJx4a65c 63 "java/util/ArrayList" "modCount" "I", Cond.sameField "java/util/ArrayList" "java/util/AbstractList" "modCount" "I"]
def wsX9_slope_r12 : List Cond := [Cond.fieldLink RJx4a65c 9 "java/util/ArrayList" "elementData" "[Ljava/lang/Object;", Cond.methodLink RJx4a65c 131 yJx4a65c_add_72be8, Cond.instanceMethod yJx4a65c_add_72be8, Cond.selects RJx4a65c yJx4a65c_add_72be8 yJx4a65c_add_72be8, Cond.code yJx4a65c_add_72be8 cJx4a65c_add_72be8 4 none, Cond.methodLink RJx4a65c 129 yJx4a65c_grow_d5877, Cond.instanceMethod yJx4a65c_grow_d5877, Cond.selects RJx4a65c yJx4a65c_grow_d5877 yJx4a65c_grow_d5877, Cond.code yJx4a65c_grow_d5877 cJx4a65c_grow_d5877 1 (some (.array (.object "java/lang/Object"))), Cond.methodLink RJx4a65c 69 yJx4a65c_grow_92f84, Cond.instanceMethod yJx4a65c_grow_92f84, Cond.selects RJx4a65c yJx4a65c_grow_92f84 yJx4a65c_grow_92f84, Cond.code yJx4a65c_grow_92f84 cJx4a65c_grow_92f84 4 (some (.array (.object "java/lang/Object"))), Cond.fieldLink RJx4a65c 39 "java/util/ArrayList" "DEFAULTCAPACITY_EMPTY_ELEMENTDATA" "[Ljava/lang/Object;", Cond.methodLink RJx4a65c 79 Lib.Math.max.name, Cond.static Lib.Math.max.name, Cond.code Lib.Math.max.name Lib.Math.max.code 2 (some .int), Cond.classLink RJx4a65c 7 "java/lang/Object", Cond.methodLink RJx4a65c 73 yJ8_newLength_cabcc, Cond.static yJ8_newLength_cabcc, Cond.initialized RJ8, Cond.code yJ8_newLength_cabcc cJ8_newLength_cabcc 4 (some .int), Cond.methodLink RJ8 194 Lib.Math.max.name, Cond.constant RJ8 200 (2147483639)]
def wsX9_slope_r13 : List Cond := [Cond.methodLink RJ8 201 yJ8_hugeLength_7cf53, Cond.static yJ8_hugeLength_7cf53, Cond.code yJ8_hugeLength_7cf53 cJ8_hugeLength_7cf53 3 (some .int), Cond.methodLink RJx4a65c 66 yJ7_copyOf_1904c, Cond.static yJ7_copyOf_1904c, Cond.code yJ7_copyOf_1904c cJ7_copyOf_1904c 2 (some (.array (.object "java/lang/Object"))), Cond.methodLink RJ7 86 ⟨"java/lang/Object", "getClass", "()Ljava/lang/Class;"⟩, Cond.selects "[Ljava/lang/Object;" ⟨"java/lang/Object", "getClass", "()Ljava/lang/Class;"⟩ ⟨"java/lang/Object", "getClass", "()Ljava/lang/Class;"⟩, Cond.instanceMethod ⟨"java/lang/Object", "getClass", "()Ljava/lang/Class;"⟩, Cond.native ⟨"java/lang/Object", "getClass", "()Ljava/lang/Class;"⟩, Cond.methodLink RJ7 300 yJ7_copyOf_6403c, Cond.static yJ7_copyOf_6403c, Cond.code yJ7_copyOf_6403c cJ7_copyOf_6403c 4 (some (.array (.object "java/lang/Object"))), Cond.classLink RJ7 110 "[Ljava/lang/Object;", Cond.classLink RJ7 2 "java/lang/Object", Cond.methodLink RX1 60 yJx4a65c_get_915e3, Cond.instanceMethod yJx4a65c_get_915e3, Cond.selects RJx4a65c yJx4a65c_get_915e3 yJx4a65c_get_915e3, Cond.code yJx4a65c_get_915e3 cJx4a65c_get_915e3 2 (some (.object "java/lang/Object")), Cond.methodLink RJx4a65c 118 yJ15_checkIndex_7cf53, Cond.static yJ15_checkIndex_7cf53, Cond.initialized RJ15, Cond.code yJ15_checkIndex_7cf53 cJ15_checkIndex_7cf53 2 (some .int), Cond.methodLink RJ15 105 yJ3_checkIndex_8e157]
def wsX9_slope_r14 : List Cond := [Cond.static yJ3_checkIndex_8e157, Cond.initialized RJ3, Cond.code yJ3_checkIndex_8e157 cJ3_checkIndex_8e157 3 (some .int), Cond.methodLink RJx4a65c 123 yJx4a65c_elementData_915e3, Cond.instanceMethod yJx4a65c_elementData_915e3, Cond.selects RJx4a65c yJx4a65c_elementData_915e3 yJx4a65c_elementData_915e3, Cond.code yJx4a65c_elementData_915e3 cJx4a65c_elementData_915e3 2 (some (.object "java/lang/Object")), Cond.methodLink RX1 86 yX4_clear, Cond.methodLink RX1 93 yX4_add, Cond.methodLink RX1 64 yX3_meets, Cond.instanceMethod yX3_meets, Cond.selects RX3 yX3_meets yX3_meets, Cond.code yX3_meets cX3_meets 2 (some .boolean), Cond.methodLink RX1 68 yX1_split, Cond.instanceMethod yX1_split, Cond.selects RX1 yX1_split yX1_split, Cond.code yX1_split cX1_split 13 none, Cond.constantLong RX1 104 (-1), Cond.fieldLink RX1 106 "ParametricFlow$Line" "start" "J", Cond.fieldLink RX1 113 "ParametricFlow$Line" "p" "J", Cond.fieldLink RX1 116 "ParametricFlow$Line" "q" "J", Cond.static yX9_commonDivisor, Cond.code yX9_commonDivisor cX9_commonDivisor 11 (some .long), Cond.methodLink RX9 208 Lib.MathLoose.abs_long.x]
def wsX9_slope_r15 : List Cond := [Cond.methodLink RX1 119 yX1_addPiece, Cond.instanceMethod yX1_addPiece, Cond.selects RX1 yX1_addPiece yX1_addPiece, Cond.code yX1_addPiece cX1_addPiece 7 none, Cond.methodLink RX1 123 yX3_copy, Cond.instanceMethod yX3_copy, Cond.selects RX3 yX3_copy yX3_copy, Cond.code yX3_copy cX3_copy 2 none, Cond.methodLink RX9 122 yX4_at, Cond.instanceMethod yX4_at, Cond.selects RX4 yX4_at yX4_at, Cond.code yX4_at cX4_at 2 (some .long), Cond.constantLong RX4 26 (-9223372036854775808)]
def wsX9_slope : List Cond := .code yX9_slope cX9_slope 4 (some .long) :: ((wsX9_slope_r1 ++ (wsX9_slope_r2 ++ (wsX9_slope_r3 ++ (wsX9_slope_r4 ++ (wsX9_slope_r5 ++ (wsX9_slope_r6 ++ (wsX9_slope_r7 ++ (wsX9_slope_r8 ++ (wsX9_slope_r9 ++ (wsX9_slope_r10 ++ (wsX9_slope_r11 ++ (wsX9_slope_r12 ++ (wsX9_slope_r13 ++ (wsX9_slope_r14 ++ wsX9_slope_r15)))))))))))))) ++ wsX90 ++ wsX10 ++ wsX30 ++ wsX50 ++ wsX70 ++ wsX40 ++ wsX00 ++ wsX80 ++ wsX20 ++ wsJx4a65c0)
def wsX10_begin : List Cond := .code yX10_begin cX10_begin 3 none :: ([.fieldLink RX10 118 "ParametricFlowModel" "nodes" "I", .fieldLink RX10 122 "ParametricFlowModel" "arcs" "I", .fieldLink RX10 125 "ParametricFlowModel" "mode" "I", .fieldLink RX10 25 "ParametricFlowModel" "supplyOf" "[I", .fieldLink RX10 28 "ParametricFlowModel" "supplySlope" "[I", .fieldLink RX10 128 "ParametricFlowModel" "isSolved" "Z"] ++ wsX100)
def wsX10_init_r1 : List Cond := [Cond.methodLink RX10 1 objectInit, Cond.instanceMethod objectInit, Cond.code objectInit ⟨#[0xb1]⟩ 1 none, Cond.arrayClass .int, Cond.fieldLink RX10 7 "ParametricFlowModel" "fromOf" "[I", Cond.fieldLink RX10 13 "ParametricFlowModel" "toOf" "[I", Cond.fieldLink RX10 16 "ParametricFlowModel" "capacityOf" "[I", Cond.fieldLink RX10 19 "ParametricFlowModel" "costOf" "[I", Cond.fieldLink RX10 22 "ParametricFlowModel" "slopeOf" "[I", Cond.fieldLink RX10 25 "ParametricFlowModel" "supplyOf" "[I", Cond.fieldLink RX10 28 "ParametricFlowModel" "supplySlope" "[I", Cond.arrayClass .long, Cond.fieldLink RX10 31 "ParametricFlowModel" "scaledCost" "[J", Cond.fieldLink RX10 35 "ParametricFlowModel" "scaledCapacity" "[J", Cond.fieldLink RX10 38 "ParametricFlowModel" "flowOn" "[J", Cond.fieldLink RX10 41 "ParametricFlowModel" "boundOf" "[I", Cond.fieldLink RX10 44 "ParametricFlowModel" "headOf" "[I", Cond.fieldLink RX10 47 "ParametricFlowModel" "tailOf" "[I", Cond.fieldLink RX10 50 "ParametricFlowModel" "supplyNow" "[J", Cond.fieldLink RX10 53 "ParametricFlowModel" "parentOf" "[I", Cond.fieldLink RX10 56 "ParametricFlowModel" "arcUp" "[I", Cond.fieldLink RX10 59 "ParametricFlowModel" "depthOf" "[I", Cond.fieldLink RX10 62 "ParametricFlowModel" "potentialOf" "[J", Cond.fieldLink RX10 65 "ParametricFlowModel" "entered" "[I"]
def wsX10_init_r2 : List Cond := [Cond.fieldLink RX10 68 "ParametricFlowModel" "left" "[I", Cond.fieldLink RX10 71 "ParametricFlowModel" "cycleArc" "[I", Cond.arrayClass .boolean, Cond.fieldLink RX10 74 "ParametricFlowModel" "cycleAlong" "[Z", Cond.fieldLink RX10 78 "ParametricFlowModel" "first" "[J", Cond.fieldLink RX10 81 "ParametricFlowModel" "second" "[J", Cond.fieldLink RX10 84 "ParametricFlowModel" "pointOver" "[J", Cond.fieldLink RX10 87 "ParametricFlowModel" "pointUnder" "[J", Cond.fieldLink RX10 90 "ParametricFlowModel" "lineConstant" "[J", Cond.fieldLink RX10 93 "ParametricFlowModel" "lineSlope" "[J", Cond.fieldLink RX10 96 "ParametricFlowModel" "isKnown" "[Z", Cond.fieldLink RX10 99 "ParametricFlowModel" "stretchSlope" "[J", Cond.methodLink RX10 102 yX10_begin, Cond.instanceMethod yX10_begin, Cond.selects RX10 yX10_begin yX10_begin, Cond.initialized RX10, Cond.code yX10_begin cX10_begin 3 none, Cond.fieldLink RX10 118 "ParametricFlowModel" "nodes" "I", Cond.fieldLink RX10 122 "ParametricFlowModel" "arcs" "I", Cond.fieldLink RX10 125 "ParametricFlowModel" "mode" "I", Cond.fieldLink RX10 128 "ParametricFlowModel" "isSolved" "Z"]
def wsX10_init : List Cond := .code yX10_init cX10_init 1 none :: ((wsX10_init_r1 ++ wsX10_init_r2) ++ wsX100)
def wsX10_in : List Cond := .code yX10_in cX10_in 3 (some .boolean) :: ([])
def wsX10_lost : List Cond := .code yX10_lost cX10_lost 0 (some .long) :: ([.constantLong RX10 106 (-9223372036854775808)])
def wsX10_size : List Cond := .code yX10_size cX10_size 2 (some .long) :: ([])
def wsX10_common : List Cond := .code yX10_common cX10_common 10 (some .long) :: ([.methodLink RX10 108 yX10_size, .static yX10_size, .initialized RX10, .code yX10_size cX10_size 2 (some .long)])
def wsX10_part : List Cond := .code yX10_part cX10_part 7 (some .long) :: ([.constantLong RX10 116 (-1), .methodLink RX10 112 yX10_common, .static yX10_common, .initialized RX10, .code yX10_common cX10_common 10 (some .long), .methodLink RX10 108 yX10_size, .static yX10_size, .code yX10_size cX10_size 2 (some .long)])
def wsX10_reset : List Cond := .code yX10_reset cX10_reset 3 (some .int) :: ([.fieldLink RX10 118 "ParametricFlowModel" "nodes" "I", .methodLink RX10 132 yX10_in, .static yX10_in, .initialized RX10, .code yX10_in cX10_in 3 (some .boolean), .methodLink RX10 102 yX10_begin, .instanceMethod yX10_begin, .selects RX10 yX10_begin yX10_begin, .code yX10_begin cX10_begin 3 none, .fieldLink RX10 122 "ParametricFlowModel" "arcs" "I", .fieldLink RX10 125 "ParametricFlowModel" "mode" "I", .fieldLink RX10 25 "ParametricFlowModel" "supplyOf" "[I", .fieldLink RX10 28 "ParametricFlowModel" "supplySlope" "[I", .fieldLink RX10 128 "ParametricFlowModel" "isSolved" "Z"] ++ wsX100)
def wsX10_noNode : List Cond := .code yX10_noNode cX10_noNode 2 (some .boolean) :: ([.fieldLink RX10 118 "ParametricFlowModel" "nodes" "I", .methodLink RX10 132 yX10_in, .static yX10_in, .initialized RX10, .code yX10_in cX10_in 3 (some .boolean)] ++ wsX100)
def wsX10_noArc : List Cond := .code yX10_noArc cX10_noArc 2 (some .boolean) :: ([.fieldLink RX10 122 "ParametricFlowModel" "arcs" "I", .methodLink RX10 132 yX10_in, .static yX10_in, .initialized RX10, .code yX10_in cX10_in 3 (some .boolean)] ++ wsX100)
def wsX10_isCapacity : List Cond := .code yX10_isCapacity cX10_isCapacity 1 (some .boolean) :: ([.methodLink RX10 132 yX10_in, .static yX10_in, .initialized RX10, .code yX10_in cX10_in 3 (some .boolean)])
def wsX10_isCost : List Cond := .code yX10_isCost cX10_isCost 1 (some .boolean) :: ([.methodLink RX10 132 yX10_in, .static yX10_in, .initialized RX10, .code yX10_in cX10_in 3 (some .boolean)])
def wsX10_isSlope : List Cond := .code yX10_isSlope cX10_isSlope 1 (some .boolean) :: ([.methodLink RX10 132 yX10_in, .static yX10_in, .initialized RX10, .code yX10_in cX10_in 3 (some .boolean)])
def wsX10_addArc_r1 : List Cond := [Cond.fieldLink RX10 122 "ParametricFlowModel" "arcs" "I", Cond.fieldLink RX10 7 "ParametricFlowModel" "fromOf" "[I", Cond.fieldLink RX10 13 "ParametricFlowModel" "toOf" "[I", Cond.fieldLink RX10 16 "ParametricFlowModel" "capacityOf" "[I", Cond.fieldLink RX10 19 "ParametricFlowModel" "costOf" "[I", Cond.fieldLink RX10 22 "ParametricFlowModel" "slopeOf" "[I", Cond.fieldLink RX10 128 "ParametricFlowModel" "isSolved" "Z", Cond.methodLink RX10 136 yX10_noNode, Cond.instanceMethod yX10_noNode, Cond.selects RX10 yX10_noNode yX10_noNode, Cond.initialized RX10, Cond.code yX10_noNode cX10_noNode 2 (some .boolean), Cond.fieldLink RX10 118 "ParametricFlowModel" "nodes" "I", Cond.methodLink RX10 132 yX10_in, Cond.static yX10_in, Cond.code yX10_in cX10_in 3 (some .boolean), Cond.methodLink RX10 140 yX10_isCapacity, Cond.static yX10_isCapacity, Cond.code yX10_isCapacity cX10_isCapacity 1 (some .boolean), Cond.methodLink RX10 143 yX10_isCost, Cond.static yX10_isCost, Cond.code yX10_isCost cX10_isCost 1 (some .boolean), Cond.methodLink RX10 146 yX10_isSlope, Cond.static yX10_isSlope]
def wsX10_addArc_r2 : List Cond := [Cond.code yX10_isSlope cX10_isSlope 1 (some .boolean)]
def wsX10_addArc : List Cond := .code yX10_addArc cX10_addArc 6 (some .int) :: ((wsX10_addArc_r1 ++ wsX10_addArc_r2) ++ wsX100)
def wsX10_removeArc : List Cond := .code yX10_removeArc cX10_removeArc 1 (some .int) :: ([.fieldLink RX10 122 "ParametricFlowModel" "arcs" "I", .fieldLink RX10 128 "ParametricFlowModel" "isSolved" "Z"] ++ wsX100)
def wsX10_setArc : List Cond := .code yX10_setArc cX10_setArc 5 (some .int) :: ([.fieldLink RX10 16 "ParametricFlowModel" "capacityOf" "[I", .fieldLink RX10 19 "ParametricFlowModel" "costOf" "[I", .fieldLink RX10 22 "ParametricFlowModel" "slopeOf" "[I", .fieldLink RX10 128 "ParametricFlowModel" "isSolved" "Z", .methodLink RX10 149 yX10_noArc, .instanceMethod yX10_noArc, .selects RX10 yX10_noArc yX10_noArc, .initialized RX10, .code yX10_noArc cX10_noArc 2 (some .boolean), .fieldLink RX10 122 "ParametricFlowModel" "arcs" "I", .methodLink RX10 132 yX10_in, .static yX10_in, .code yX10_in cX10_in 3 (some .boolean), .methodLink RX10 140 yX10_isCapacity, .static yX10_isCapacity, .code yX10_isCapacity cX10_isCapacity 1 (some .boolean), .methodLink RX10 143 yX10_isCost, .static yX10_isCost, .code yX10_isCost cX10_isCost 1 (some .boolean), .methodLink RX10 146 yX10_isSlope, .static yX10_isSlope, .code yX10_isSlope cX10_isSlope 1 (some .boolean)] ++ wsX100)
def wsX10_setSupply : List Cond := .code yX10_setSupply cX10_setSupply 5 (some .int) :: ([.fieldLink RX10 25 "ParametricFlowModel" "supplyOf" "[I", .fieldLink RX10 28 "ParametricFlowModel" "supplySlope" "[I", .fieldLink RX10 128 "ParametricFlowModel" "isSolved" "Z", .methodLink RX10 136 yX10_noNode, .instanceMethod yX10_noNode, .selects RX10 yX10_noNode yX10_noNode, .initialized RX10, .code yX10_noNode cX10_noNode 2 (some .boolean), .fieldLink RX10 118 "ParametricFlowModel" "nodes" "I", .methodLink RX10 132 yX10_in, .static yX10_in, .code yX10_in cX10_in 3 (some .boolean), .methodLink RX10 146 yX10_isSlope, .static yX10_isSlope, .code yX10_isSlope cX10_isSlope 1 (some .boolean)] ++ wsX100)
def wsX10_setMode : List Cond := .code yX10_setMode cX10_setMode 3 (some .int) :: ([.fieldLink RX10 125 "ParametricFlowModel" "mode" "I", .fieldLink RX10 128 "ParametricFlowModel" "isSolved" "Z", .methodLink RX10 132 yX10_in, .static yX10_in, .initialized RX10, .code yX10_in cX10_in 3 (some .boolean)] ++ wsX100)
def wsX10_arc : List Cond := .code yX10_arc cX10_arc 3 (some .int) :: ([.fieldLink RX10 7 "ParametricFlowModel" "fromOf" "[I", .fieldLink RX10 13 "ParametricFlowModel" "toOf" "[I", .fieldLink RX10 16 "ParametricFlowModel" "capacityOf" "[I", .fieldLink RX10 19 "ParametricFlowModel" "costOf" "[I", .fieldLink RX10 22 "ParametricFlowModel" "slopeOf" "[I", .methodLink RX10 149 yX10_noArc, .instanceMethod yX10_noArc, .selects RX10 yX10_noArc yX10_noArc, .initialized RX10, .code yX10_noArc cX10_noArc 2 (some .boolean), .fieldLink RX10 122 "ParametricFlowModel" "arcs" "I", .methodLink RX10 132 yX10_in, .static yX10_in, .code yX10_in cX10_in 3 (some .boolean)] ++ wsX100)
def wsX10_sumOf : List Cond := .code yX10_sumOf cX10_sumOf 4 (some .int) :: ([.fieldLink RX10 118 "ParametricFlowModel" "nodes" "I", .fieldLink RX10 28 "ParametricFlowModel" "supplySlope" "[I", .fieldLink RX10 25 "ParametricFlowModel" "supplyOf" "[I"] ++ wsX100)
def wsX10_network : List Cond := .code yX10_network cX10_network 2 (some .int) :: ([.fieldLink RX10 118 "ParametricFlowModel" "nodes" "I", .fieldLink RX10 122 "ParametricFlowModel" "arcs" "I", .fieldLink RX10 125 "ParametricFlowModel" "mode" "I", .fieldLink RX10 128 "ParametricFlowModel" "isSolved" "Z", .methodLink RX10 152 yX10_sumOf, .instanceMethod yX10_sumOf, .selects RX10 yX10_sumOf yX10_sumOf, .initialized RX10, .code yX10_sumOf cX10_sumOf 4 (some .int), .fieldLink RX10 28 "ParametricFlowModel" "supplySlope" "[I", .fieldLink RX10 25 "ParametricFlowModel" "supplyOf" "[I"] ++ wsX100)
def wsX10_isBalanced : List Cond := .code yX10_isBalanced cX10_isBalanced 8 (some .boolean) :: ([.fieldLink RX10 118 "ParametricFlowModel" "nodes" "I", .fieldLink RX10 125 "ParametricFlowModel" "mode" "I", .fieldLink RX10 25 "ParametricFlowModel" "supplyOf" "[I", .fieldLink RX10 28 "ParametricFlowModel" "supplySlope" "[I"] ++ wsX100)
def wsX10_layDepths : List Cond := .code yX10_layDepths cX10_layDepths 6 none :: ([.fieldLink RX10 59 "ParametricFlowModel" "depthOf" "[I", .fieldLink RX10 62 "ParametricFlowModel" "potentialOf" "[J", .fieldLink RX10 118 "ParametricFlowModel" "nodes" "I", .fieldLink RX10 53 "ParametricFlowModel" "parentOf" "[I", .fieldLink RX10 31 "ParametricFlowModel" "scaledCost" "[J", .fieldLink RX10 56 "ParametricFlowModel" "arcUp" "[I", .fieldLink RX10 47 "ParametricFlowModel" "tailOf" "[I"] ++ wsX100)
def wsX10_lay_r1 : List Cond := [Cond.fieldLink RX10 156 "ParametricFlowModel" "unit" "J", Cond.fieldLink RX10 160 "ParametricFlowModel" "pivots" "I", Cond.fieldLink RX10 122 "ParametricFlowModel" "arcs" "I", Cond.fieldLink RX10 47 "ParametricFlowModel" "tailOf" "[I", Cond.fieldLink RX10 7 "ParametricFlowModel" "fromOf" "[I", Cond.fieldLink RX10 44 "ParametricFlowModel" "headOf" "[I", Cond.fieldLink RX10 13 "ParametricFlowModel" "toOf" "[I", Cond.fieldLink RX10 31 "ParametricFlowModel" "scaledCost" "[J", Cond.fieldLink RX10 125 "ParametricFlowModel" "mode" "I", Cond.fieldLink RX10 19 "ParametricFlowModel" "costOf" "[I", Cond.fieldLink RX10 22 "ParametricFlowModel" "slopeOf" "[I", Cond.fieldLink RX10 35 "ParametricFlowModel" "scaledCapacity" "[J", Cond.fieldLink RX10 16 "ParametricFlowModel" "capacityOf" "[I", Cond.fieldLink RX10 38 "ParametricFlowModel" "flowOn" "[J", Cond.fieldLink RX10 41 "ParametricFlowModel" "boundOf" "[I", Cond.fieldLink RX10 118 "ParametricFlowModel" "nodes" "I", Cond.fieldLink RX10 50 "ParametricFlowModel" "supplyNow" "[J", Cond.fieldLink RX10 25 "ParametricFlowModel" "supplyOf" "[I", Cond.fieldLink RX10 28 "ParametricFlowModel" "supplySlope" "[I", Cond.constantLong RX10 163 (4000000000000000000), Cond.fieldLink RX10 53 "ParametricFlowModel" "parentOf" "[I", Cond.fieldLink RX10 56 "ParametricFlowModel" "arcUp" "[I", Cond.methodLink RX10 108 yX10_size, Cond.static yX10_size]
def wsX10_lay_r2 : List Cond := [Cond.initialized RX10, Cond.code yX10_size cX10_size 2 (some .long), Cond.methodLink RX10 165 yX10_layDepths, Cond.instanceMethod yX10_layDepths, Cond.selects RX10 yX10_layDepths yX10_layDepths, Cond.code yX10_layDepths cX10_layDepths 6 none, Cond.fieldLink RX10 59 "ParametricFlowModel" "depthOf" "[I", Cond.fieldLink RX10 62 "ParametricFlowModel" "potentialOf" "[J"]
def wsX10_lay : List Cond := .code yX10_lay cX10_lay 9 none :: ((wsX10_lay_r1 ++ wsX10_lay_r2) ++ wsX100)
def wsX10_entering : List Cond := .code yX10_entering cX10_entering 6 (some .int) :: ([.fieldLink RX10 122 "ParametricFlowModel" "arcs" "I", .fieldLink RX10 41 "ParametricFlowModel" "boundOf" "[I", .methodLink RX10 168 yX10_reduced, .instanceMethod yX10_reduced, .selects RX10 yX10_reduced yX10_reduced, .initialized RX10, .code yX10_reduced cX10_reduced 2 (some .long), .fieldLink RX10 31 "ParametricFlowModel" "scaledCost" "[J", .fieldLink RX10 62 "ParametricFlowModel" "potentialOf" "[J", .fieldLink RX10 47 "ParametricFlowModel" "tailOf" "[I", .fieldLink RX10 44 "ParametricFlowModel" "headOf" "[I", .methodLink RX10 108 yX10_size, .static yX10_size, .code yX10_size cX10_size 2 (some .long)] ++ wsX100)
def wsX10_tryAt_r1 : List Cond := [Cond.fieldLink RX10 118 "ParametricFlowModel" "nodes" "I", Cond.fieldLink RX10 38 "ParametricFlowModel" "flowOn" "[J", Cond.methodLink RX10 193 yX10_isBalanced, Cond.instanceMethod yX10_isBalanced, Cond.selects RX10 yX10_isBalanced yX10_isBalanced, Cond.initialized RX10, Cond.code yX10_isBalanced cX10_isBalanced 8 (some .boolean), Cond.fieldLink RX10 125 "ParametricFlowModel" "mode" "I", Cond.fieldLink RX10 25 "ParametricFlowModel" "supplyOf" "[I", Cond.fieldLink RX10 28 "ParametricFlowModel" "supplySlope" "[I", Cond.methodLink RX10 197 yX10_lay, Cond.instanceMethod yX10_lay, Cond.selects RX10 yX10_lay yX10_lay, Cond.code yX10_lay cX10_lay 9 none, Cond.fieldLink RX10 156 "ParametricFlowModel" "unit" "J", Cond.fieldLink RX10 160 "ParametricFlowModel" "pivots" "I", Cond.fieldLink RX10 122 "ParametricFlowModel" "arcs" "I", Cond.fieldLink RX10 47 "ParametricFlowModel" "tailOf" "[I", Cond.fieldLink RX10 7 "ParametricFlowModel" "fromOf" "[I", Cond.fieldLink RX10 44 "ParametricFlowModel" "headOf" "[I", Cond.fieldLink RX10 13 "ParametricFlowModel" "toOf" "[I", Cond.fieldLink RX10 31 "ParametricFlowModel" "scaledCost" "[J", Cond.fieldLink RX10 19 "ParametricFlowModel" "costOf" "[I", Cond.fieldLink RX10 22 "ParametricFlowModel" "slopeOf" "[I"]
def wsX10_tryAt_r2 : List Cond := [Cond.fieldLink RX10 35 "ParametricFlowModel" "scaledCapacity" "[J", Cond.fieldLink RX10 16 "ParametricFlowModel" "capacityOf" "[I", Cond.fieldLink RX10 41 "ParametricFlowModel" "boundOf" "[I", Cond.fieldLink RX10 50 "ParametricFlowModel" "supplyNow" "[J", Cond.constantLong RX10 163 (4000000000000000000), Cond.fieldLink RX10 53 "ParametricFlowModel" "parentOf" "[I", Cond.fieldLink RX10 56 "ParametricFlowModel" "arcUp" "[I", Cond.methodLink RX10 108 yX10_size, Cond.static yX10_size, Cond.code yX10_size cX10_size 2 (some .long), Cond.methodLink RX10 165 yX10_layDepths, Cond.instanceMethod yX10_layDepths, Cond.selects RX10 yX10_layDepths yX10_layDepths, Cond.code yX10_layDepths cX10_layDepths 6 none, Cond.fieldLink RX10 59 "ParametricFlowModel" "depthOf" "[I", Cond.fieldLink RX10 62 "ParametricFlowModel" "potentialOf" "[J", Cond.methodLink RX10 201 yX10_entering, Cond.instanceMethod yX10_entering, Cond.selects RX10 yX10_entering yX10_entering, Cond.code yX10_entering cX10_entering 6 (some .int), Cond.methodLink RX10 168 yX10_reduced, Cond.instanceMethod yX10_reduced, Cond.selects RX10 yX10_reduced yX10_reduced, Cond.code yX10_reduced cX10_reduced 2 (some .long)]
def wsX10_tryAt_r3 : List Cond := [Cond.methodLink RX10 205 yX10_pivotBy, Cond.instanceMethod yX10_pivotBy, Cond.selects RX10 yX10_pivotBy yX10_pivotBy, Cond.code yX10_pivotBy cX10_pivotBy 8 none, Cond.fieldLink RX10 176 "ParametricFlowModel" "cycleLong" "I", Cond.fieldLink RX10 71 "ParametricFlowModel" "cycleArc" "[I", Cond.fieldLink RX10 74 "ParametricFlowModel" "cycleAlong" "[Z", Cond.fieldLink RX10 65 "ParametricFlowModel" "entered" "[I", Cond.fieldLink RX10 68 "ParametricFlowModel" "left" "[I", Cond.methodLink RX10 179 yX10_layCycle, Cond.instanceMethod yX10_layCycle, Cond.selects RX10 yX10_layCycle yX10_layCycle, Cond.code yX10_layCycle cX10_layCycle 7 none, Cond.methodLink RX10 172 yX10_apexOf, Cond.instanceMethod yX10_apexOf, Cond.selects RX10 yX10_apexOf yX10_apexOf, Cond.code yX10_apexOf cX10_apexOf 5 (some .int), Cond.methodLink RX10 182 yX10_room, Cond.instanceMethod yX10_room, Cond.selects RX10 yX10_room yX10_room, Cond.code yX10_room cX10_room 3 (some .long), Cond.methodLink RX10 185 yX10_isBelow, Cond.instanceMethod yX10_isBelow, Cond.selects RX10 yX10_isBelow yX10_isBelow]
def wsX10_tryAt_r4 : List Cond := [Cond.code yX10_isBelow cX10_isBelow 4 (some .boolean), Cond.methodLink RX10 189 yX10_hang, Cond.instanceMethod yX10_hang, Cond.selects RX10 yX10_hang yX10_hang, Cond.code yX10_hang cX10_hang 11 none]
def wsX10_tryAt : List Cond := .code yX10_tryAt cX10_tryAt 6 (some .int) :: ((wsX10_tryAt_r1 ++ (wsX10_tryAt_r2 ++ (wsX10_tryAt_r3 ++ wsX10_tryAt_r4))) ++ wsX100)
def wsX10_valueNow : List Cond := .code yX10_valueNow cX10_valueNow 4 (some .long) :: ([.fieldLink RX10 122 "ParametricFlowModel" "arcs" "I", .fieldLink RX10 38 "ParametricFlowModel" "flowOn" "[J", .fieldLink RX10 31 "ParametricFlowModel" "scaledCost" "[J"] ++ wsX100)
def wsX10_isParameter : List Cond := .code yX10_isParameter cX10_isParameter 2 (some .boolean) :: ([.methodLink RX10 132 yX10_in, .static yX10_in, .initialized RX10, .code yX10_in cX10_in 3 (some .boolean)])
def wsX10_solve_r1 : List Cond := [Cond.fieldLink RX10 128 "ParametricFlowModel" "isSolved" "Z", Cond.fieldLink RX10 208 "ParametricFlowModel" "solvedP" "I", Cond.fieldLink RX10 211 "ParametricFlowModel" "solvedQ" "I", Cond.fieldLink RX10 160 "ParametricFlowModel" "pivots" "I", Cond.methodLink RX10 218 yX10_isParameter, Cond.static yX10_isParameter, Cond.initialized RX10, Cond.code yX10_isParameter cX10_isParameter 2 (some .boolean), Cond.methodLink RX10 132 yX10_in, Cond.static yX10_in, Cond.code yX10_in cX10_in 3 (some .boolean), Cond.methodLink RX10 214 yX10_tryAt, Cond.instanceMethod yX10_tryAt, Cond.selects RX10 yX10_tryAt yX10_tryAt, Cond.code yX10_tryAt cX10_tryAt 6 (some .int), Cond.fieldLink RX10 118 "ParametricFlowModel" "nodes" "I", Cond.fieldLink RX10 38 "ParametricFlowModel" "flowOn" "[J", Cond.methodLink RX10 193 yX10_isBalanced, Cond.instanceMethod yX10_isBalanced, Cond.selects RX10 yX10_isBalanced yX10_isBalanced, Cond.code yX10_isBalanced cX10_isBalanced 8 (some .boolean), Cond.fieldLink RX10 125 "ParametricFlowModel" "mode" "I", Cond.fieldLink RX10 25 "ParametricFlowModel" "supplyOf" "[I", Cond.fieldLink RX10 28 "ParametricFlowModel" "supplySlope" "[I"]
def wsX10_solve_r2 : List Cond := [Cond.methodLink RX10 197 yX10_lay, Cond.instanceMethod yX10_lay, Cond.selects RX10 yX10_lay yX10_lay, Cond.code yX10_lay cX10_lay 9 none, Cond.fieldLink RX10 156 "ParametricFlowModel" "unit" "J", Cond.fieldLink RX10 122 "ParametricFlowModel" "arcs" "I", Cond.fieldLink RX10 47 "ParametricFlowModel" "tailOf" "[I", Cond.fieldLink RX10 7 "ParametricFlowModel" "fromOf" "[I", Cond.fieldLink RX10 44 "ParametricFlowModel" "headOf" "[I", Cond.fieldLink RX10 13 "ParametricFlowModel" "toOf" "[I", Cond.fieldLink RX10 31 "ParametricFlowModel" "scaledCost" "[J", Cond.fieldLink RX10 19 "ParametricFlowModel" "costOf" "[I", Cond.fieldLink RX10 22 "ParametricFlowModel" "slopeOf" "[I", Cond.fieldLink RX10 35 "ParametricFlowModel" "scaledCapacity" "[J", Cond.fieldLink RX10 16 "ParametricFlowModel" "capacityOf" "[I", Cond.fieldLink RX10 41 "ParametricFlowModel" "boundOf" "[I", Cond.fieldLink RX10 50 "ParametricFlowModel" "supplyNow" "[J", Cond.constantLong RX10 163 (4000000000000000000), Cond.fieldLink RX10 53 "ParametricFlowModel" "parentOf" "[I", Cond.fieldLink RX10 56 "ParametricFlowModel" "arcUp" "[I", Cond.methodLink RX10 108 yX10_size, Cond.static yX10_size, Cond.code yX10_size cX10_size 2 (some .long), Cond.methodLink RX10 165 yX10_layDepths]
def wsX10_solve_r3 : List Cond := [Cond.instanceMethod yX10_layDepths, Cond.selects RX10 yX10_layDepths yX10_layDepths, Cond.code yX10_layDepths cX10_layDepths 6 none, Cond.fieldLink RX10 59 "ParametricFlowModel" "depthOf" "[I", Cond.fieldLink RX10 62 "ParametricFlowModel" "potentialOf" "[J", Cond.methodLink RX10 201 yX10_entering, Cond.instanceMethod yX10_entering, Cond.selects RX10 yX10_entering yX10_entering, Cond.code yX10_entering cX10_entering 6 (some .int), Cond.methodLink RX10 168 yX10_reduced, Cond.instanceMethod yX10_reduced, Cond.selects RX10 yX10_reduced yX10_reduced, Cond.code yX10_reduced cX10_reduced 2 (some .long), Cond.methodLink RX10 205 yX10_pivotBy, Cond.instanceMethod yX10_pivotBy, Cond.selects RX10 yX10_pivotBy yX10_pivotBy, Cond.code yX10_pivotBy cX10_pivotBy 8 none, Cond.fieldLink RX10 176 "ParametricFlowModel" "cycleLong" "I", Cond.fieldLink RX10 71 "ParametricFlowModel" "cycleArc" "[I", Cond.fieldLink RX10 74 "ParametricFlowModel" "cycleAlong" "[Z", Cond.fieldLink RX10 65 "ParametricFlowModel" "entered" "[I", Cond.fieldLink RX10 68 "ParametricFlowModel" "left" "[I", Cond.methodLink RX10 179 yX10_layCycle, Cond.instanceMethod yX10_layCycle]
def wsX10_solve_r4 : List Cond := [Cond.selects RX10 yX10_layCycle yX10_layCycle, Cond.code yX10_layCycle cX10_layCycle 7 none, Cond.methodLink RX10 172 yX10_apexOf, Cond.instanceMethod yX10_apexOf, Cond.selects RX10 yX10_apexOf yX10_apexOf, Cond.code yX10_apexOf cX10_apexOf 5 (some .int), Cond.methodLink RX10 182 yX10_room, Cond.instanceMethod yX10_room, Cond.selects RX10 yX10_room yX10_room, Cond.code yX10_room cX10_room 3 (some .long), Cond.methodLink RX10 185 yX10_isBelow, Cond.instanceMethod yX10_isBelow, Cond.selects RX10 yX10_isBelow yX10_isBelow, Cond.code yX10_isBelow cX10_isBelow 4 (some .boolean), Cond.methodLink RX10 189 yX10_hang, Cond.instanceMethod yX10_hang, Cond.selects RX10 yX10_hang yX10_hang, Cond.code yX10_hang cX10_hang 11 none]
def wsX10_solve : List Cond := .code yX10_solve cX10_solve 4 (some .int) :: ((wsX10_solve_r1 ++ (wsX10_solve_r2 ++ (wsX10_solve_r3 ++ wsX10_solve_r4))) ++ wsX100)
def wsX10_pivot_r1 : List Cond := [Cond.fieldLink RX10 128 "ParametricFlowModel" "isSolved" "Z", Cond.fieldLink RX10 160 "ParametricFlowModel" "pivots" "I", Cond.fieldLink RX10 68 "ParametricFlowModel" "left" "[I", Cond.fieldLink RX10 65 "ParametricFlowModel" "entered" "[I", Cond.methodLink RX10 221 yX10_findAgain, Cond.instanceMethod yX10_findAgain, Cond.selects RX10 yX10_findAgain yX10_findAgain, Cond.initialized RX10, Cond.code yX10_findAgain cX10_findAgain 1 none, Cond.fieldLink RX10 208 "ParametricFlowModel" "solvedP" "I", Cond.fieldLink RX10 211 "ParametricFlowModel" "solvedQ" "I", Cond.methodLink RX10 214 yX10_tryAt, Cond.instanceMethod yX10_tryAt, Cond.selects RX10 yX10_tryAt yX10_tryAt, Cond.code yX10_tryAt cX10_tryAt 6 (some .int), Cond.fieldLink RX10 118 "ParametricFlowModel" "nodes" "I", Cond.fieldLink RX10 38 "ParametricFlowModel" "flowOn" "[J", Cond.methodLink RX10 193 yX10_isBalanced, Cond.instanceMethod yX10_isBalanced, Cond.selects RX10 yX10_isBalanced yX10_isBalanced, Cond.code yX10_isBalanced cX10_isBalanced 8 (some .boolean), Cond.fieldLink RX10 125 "ParametricFlowModel" "mode" "I", Cond.fieldLink RX10 25 "ParametricFlowModel" "supplyOf" "[I", Cond.fieldLink RX10 28 "ParametricFlowModel" "supplySlope" "[I"]
def wsX10_pivot_r2 : List Cond := [Cond.methodLink RX10 197 yX10_lay, Cond.instanceMethod yX10_lay, Cond.selects RX10 yX10_lay yX10_lay, Cond.code yX10_lay cX10_lay 9 none, Cond.fieldLink RX10 156 "ParametricFlowModel" "unit" "J", Cond.fieldLink RX10 122 "ParametricFlowModel" "arcs" "I", Cond.fieldLink RX10 47 "ParametricFlowModel" "tailOf" "[I", Cond.fieldLink RX10 7 "ParametricFlowModel" "fromOf" "[I", Cond.fieldLink RX10 44 "ParametricFlowModel" "headOf" "[I", Cond.fieldLink RX10 13 "ParametricFlowModel" "toOf" "[I", Cond.fieldLink RX10 31 "ParametricFlowModel" "scaledCost" "[J", Cond.fieldLink RX10 19 "ParametricFlowModel" "costOf" "[I", Cond.fieldLink RX10 22 "ParametricFlowModel" "slopeOf" "[I", Cond.fieldLink RX10 35 "ParametricFlowModel" "scaledCapacity" "[J", Cond.fieldLink RX10 16 "ParametricFlowModel" "capacityOf" "[I", Cond.fieldLink RX10 41 "ParametricFlowModel" "boundOf" "[I", Cond.fieldLink RX10 50 "ParametricFlowModel" "supplyNow" "[J", Cond.constantLong RX10 163 (4000000000000000000), Cond.fieldLink RX10 53 "ParametricFlowModel" "parentOf" "[I", Cond.fieldLink RX10 56 "ParametricFlowModel" "arcUp" "[I", Cond.methodLink RX10 108 yX10_size, Cond.static yX10_size, Cond.code yX10_size cX10_size 2 (some .long), Cond.methodLink RX10 165 yX10_layDepths]
def wsX10_pivot_r3 : List Cond := [Cond.instanceMethod yX10_layDepths, Cond.selects RX10 yX10_layDepths yX10_layDepths, Cond.code yX10_layDepths cX10_layDepths 6 none, Cond.fieldLink RX10 59 "ParametricFlowModel" "depthOf" "[I", Cond.fieldLink RX10 62 "ParametricFlowModel" "potentialOf" "[J", Cond.methodLink RX10 201 yX10_entering, Cond.instanceMethod yX10_entering, Cond.selects RX10 yX10_entering yX10_entering, Cond.code yX10_entering cX10_entering 6 (some .int), Cond.methodLink RX10 168 yX10_reduced, Cond.instanceMethod yX10_reduced, Cond.selects RX10 yX10_reduced yX10_reduced, Cond.code yX10_reduced cX10_reduced 2 (some .long), Cond.methodLink RX10 205 yX10_pivotBy, Cond.instanceMethod yX10_pivotBy, Cond.selects RX10 yX10_pivotBy yX10_pivotBy, Cond.code yX10_pivotBy cX10_pivotBy 8 none, Cond.fieldLink RX10 176 "ParametricFlowModel" "cycleLong" "I", Cond.fieldLink RX10 71 "ParametricFlowModel" "cycleArc" "[I", Cond.fieldLink RX10 74 "ParametricFlowModel" "cycleAlong" "[Z", Cond.methodLink RX10 179 yX10_layCycle, Cond.instanceMethod yX10_layCycle, Cond.selects RX10 yX10_layCycle yX10_layCycle, Cond.code yX10_layCycle cX10_layCycle 7 none]
def wsX10_pivot_r4 : List Cond := [Cond.methodLink RX10 172 yX10_apexOf, Cond.instanceMethod yX10_apexOf, Cond.selects RX10 yX10_apexOf yX10_apexOf, Cond.code yX10_apexOf cX10_apexOf 5 (some .int), Cond.methodLink RX10 182 yX10_room, Cond.instanceMethod yX10_room, Cond.selects RX10 yX10_room yX10_room, Cond.code yX10_room cX10_room 3 (some .long), Cond.methodLink RX10 185 yX10_isBelow, Cond.instanceMethod yX10_isBelow, Cond.selects RX10 yX10_isBelow yX10_isBelow, Cond.code yX10_isBelow cX10_isBelow 4 (some .boolean), Cond.methodLink RX10 189 yX10_hang, Cond.instanceMethod yX10_hang, Cond.selects RX10 yX10_hang yX10_hang, Cond.code yX10_hang cX10_hang 11 none, Cond.methodLink RX10 224 yX10_told, Cond.static yX10_told, Cond.code yX10_told cX10_told 1 (some .int)]
def wsX10_pivot : List Cond := .code yX10_pivot cX10_pivot 3 (some .int) :: ((wsX10_pivot_r1 ++ (wsX10_pivot_r2 ++ (wsX10_pivot_r3 ++ wsX10_pivot_r4))) ++ wsX100)
def wsX10_objective_r1 : List Cond := [Cond.fieldLink RX10 128 "ParametricFlowModel" "isSolved" "Z", Cond.fieldLink RX10 156 "ParametricFlowModel" "unit" "J", Cond.methodLink RX10 228 yX10_lost, Cond.static yX10_lost, Cond.initialized RX10, Cond.code yX10_lost cX10_lost 0 (some .long), Cond.constantLong RX10 106 (-9223372036854775808), Cond.methodLink RX10 221 yX10_findAgain, Cond.instanceMethod yX10_findAgain, Cond.selects RX10 yX10_findAgain yX10_findAgain, Cond.code yX10_findAgain cX10_findAgain 1 none, Cond.fieldLink RX10 208 "ParametricFlowModel" "solvedP" "I", Cond.fieldLink RX10 211 "ParametricFlowModel" "solvedQ" "I", Cond.methodLink RX10 214 yX10_tryAt, Cond.instanceMethod yX10_tryAt, Cond.selects RX10 yX10_tryAt yX10_tryAt, Cond.code yX10_tryAt cX10_tryAt 6 (some .int), Cond.fieldLink RX10 118 "ParametricFlowModel" "nodes" "I", Cond.fieldLink RX10 38 "ParametricFlowModel" "flowOn" "[J", Cond.methodLink RX10 193 yX10_isBalanced, Cond.instanceMethod yX10_isBalanced, Cond.selects RX10 yX10_isBalanced yX10_isBalanced, Cond.code yX10_isBalanced cX10_isBalanced 8 (some .boolean), Cond.fieldLink RX10 125 "ParametricFlowModel" "mode" "I"]
def wsX10_objective_r2 : List Cond := [Cond.fieldLink RX10 25 "ParametricFlowModel" "supplyOf" "[I", Cond.fieldLink RX10 28 "ParametricFlowModel" "supplySlope" "[I", Cond.methodLink RX10 197 yX10_lay, Cond.instanceMethod yX10_lay, Cond.selects RX10 yX10_lay yX10_lay, Cond.code yX10_lay cX10_lay 9 none, Cond.fieldLink RX10 160 "ParametricFlowModel" "pivots" "I", Cond.fieldLink RX10 122 "ParametricFlowModel" "arcs" "I", Cond.fieldLink RX10 47 "ParametricFlowModel" "tailOf" "[I", Cond.fieldLink RX10 7 "ParametricFlowModel" "fromOf" "[I", Cond.fieldLink RX10 44 "ParametricFlowModel" "headOf" "[I", Cond.fieldLink RX10 13 "ParametricFlowModel" "toOf" "[I", Cond.fieldLink RX10 31 "ParametricFlowModel" "scaledCost" "[J", Cond.fieldLink RX10 19 "ParametricFlowModel" "costOf" "[I", Cond.fieldLink RX10 22 "ParametricFlowModel" "slopeOf" "[I", Cond.fieldLink RX10 35 "ParametricFlowModel" "scaledCapacity" "[J", Cond.fieldLink RX10 16 "ParametricFlowModel" "capacityOf" "[I", Cond.fieldLink RX10 41 "ParametricFlowModel" "boundOf" "[I", Cond.fieldLink RX10 50 "ParametricFlowModel" "supplyNow" "[J", Cond.constantLong RX10 163 (4000000000000000000), Cond.fieldLink RX10 53 "ParametricFlowModel" "parentOf" "[I", Cond.fieldLink RX10 56 "ParametricFlowModel" "arcUp" "[I", Cond.methodLink RX10 108 yX10_size, Cond.static yX10_size]
def wsX10_objective_r3 : List Cond := [Cond.code yX10_size cX10_size 2 (some .long), Cond.methodLink RX10 165 yX10_layDepths, Cond.instanceMethod yX10_layDepths, Cond.selects RX10 yX10_layDepths yX10_layDepths, Cond.code yX10_layDepths cX10_layDepths 6 none, Cond.fieldLink RX10 59 "ParametricFlowModel" "depthOf" "[I", Cond.fieldLink RX10 62 "ParametricFlowModel" "potentialOf" "[J", Cond.methodLink RX10 201 yX10_entering, Cond.instanceMethod yX10_entering, Cond.selects RX10 yX10_entering yX10_entering, Cond.code yX10_entering cX10_entering 6 (some .int), Cond.methodLink RX10 168 yX10_reduced, Cond.instanceMethod yX10_reduced, Cond.selects RX10 yX10_reduced yX10_reduced, Cond.code yX10_reduced cX10_reduced 2 (some .long), Cond.methodLink RX10 205 yX10_pivotBy, Cond.instanceMethod yX10_pivotBy, Cond.selects RX10 yX10_pivotBy yX10_pivotBy, Cond.code yX10_pivotBy cX10_pivotBy 8 none, Cond.fieldLink RX10 176 "ParametricFlowModel" "cycleLong" "I", Cond.fieldLink RX10 71 "ParametricFlowModel" "cycleArc" "[I", Cond.fieldLink RX10 74 "ParametricFlowModel" "cycleAlong" "[Z", Cond.fieldLink RX10 65 "ParametricFlowModel" "entered" "[I", Cond.fieldLink RX10 68 "ParametricFlowModel" "left" "[I"]
def wsX10_objective_r4 : List Cond := [Cond.methodLink RX10 179 yX10_layCycle, Cond.instanceMethod yX10_layCycle, Cond.selects RX10 yX10_layCycle yX10_layCycle, Cond.code yX10_layCycle cX10_layCycle 7 none, Cond.methodLink RX10 172 yX10_apexOf, Cond.instanceMethod yX10_apexOf, Cond.selects RX10 yX10_apexOf yX10_apexOf, Cond.code yX10_apexOf cX10_apexOf 5 (some .int), Cond.methodLink RX10 182 yX10_room, Cond.instanceMethod yX10_room, Cond.selects RX10 yX10_room yX10_room, Cond.code yX10_room cX10_room 3 (some .long), Cond.methodLink RX10 185 yX10_isBelow, Cond.instanceMethod yX10_isBelow, Cond.selects RX10 yX10_isBelow yX10_isBelow, Cond.code yX10_isBelow cX10_isBelow 4 (some .boolean), Cond.methodLink RX10 189 yX10_hang, Cond.instanceMethod yX10_hang, Cond.selects RX10 yX10_hang yX10_hang, Cond.code yX10_hang cX10_hang 11 none, Cond.methodLink RX10 232 yX10_valueNow, Cond.instanceMethod yX10_valueNow, Cond.selects RX10 yX10_valueNow yX10_valueNow, Cond.code yX10_valueNow cX10_valueNow 4 (some .long)]
def wsX10_objective_r5 : List Cond := [Cond.methodLink RX10 235 yX10_part, Cond.static yX10_part, Cond.code yX10_part cX10_part 7 (some .long), Cond.constantLong RX10 116 (-1), Cond.methodLink RX10 112 yX10_common, Cond.static yX10_common, Cond.code yX10_common cX10_common 10 (some .long)]
def wsX10_objective : List Cond := .code yX10_objective cX10_objective 2 (some .long) :: ((wsX10_objective_r1 ++ (wsX10_objective_r2 ++ (wsX10_objective_r3 ++ (wsX10_objective_r4 ++ wsX10_objective_r5)))) ++ wsX100)
def wsX10_flow_r1 : List Cond := [Cond.fieldLink RX10 128 "ParametricFlowModel" "isSolved" "Z", Cond.fieldLink RX10 38 "ParametricFlowModel" "flowOn" "[J", Cond.fieldLink RX10 125 "ParametricFlowModel" "mode" "I", Cond.fieldLink RX10 156 "ParametricFlowModel" "unit" "J", Cond.methodLink RX10 149 yX10_noArc, Cond.instanceMethod yX10_noArc, Cond.selects RX10 yX10_noArc yX10_noArc, Cond.initialized RX10, Cond.code yX10_noArc cX10_noArc 2 (some .boolean), Cond.fieldLink RX10 122 "ParametricFlowModel" "arcs" "I", Cond.methodLink RX10 132 yX10_in, Cond.static yX10_in, Cond.code yX10_in cX10_in 3 (some .boolean), Cond.methodLink RX10 228 yX10_lost, Cond.static yX10_lost, Cond.code yX10_lost cX10_lost 0 (some .long), Cond.constantLong RX10 106 (-9223372036854775808), Cond.methodLink RX10 221 yX10_findAgain, Cond.instanceMethod yX10_findAgain, Cond.selects RX10 yX10_findAgain yX10_findAgain, Cond.code yX10_findAgain cX10_findAgain 1 none, Cond.fieldLink RX10 208 "ParametricFlowModel" "solvedP" "I", Cond.fieldLink RX10 211 "ParametricFlowModel" "solvedQ" "I", Cond.methodLink RX10 214 yX10_tryAt]
def wsX10_flow_r2 : List Cond := [Cond.instanceMethod yX10_tryAt, Cond.selects RX10 yX10_tryAt yX10_tryAt, Cond.code yX10_tryAt cX10_tryAt 6 (some .int), Cond.fieldLink RX10 118 "ParametricFlowModel" "nodes" "I", Cond.methodLink RX10 193 yX10_isBalanced, Cond.instanceMethod yX10_isBalanced, Cond.selects RX10 yX10_isBalanced yX10_isBalanced, Cond.code yX10_isBalanced cX10_isBalanced 8 (some .boolean), Cond.fieldLink RX10 25 "ParametricFlowModel" "supplyOf" "[I", Cond.fieldLink RX10 28 "ParametricFlowModel" "supplySlope" "[I", Cond.methodLink RX10 197 yX10_lay, Cond.instanceMethod yX10_lay, Cond.selects RX10 yX10_lay yX10_lay, Cond.code yX10_lay cX10_lay 9 none, Cond.fieldLink RX10 160 "ParametricFlowModel" "pivots" "I", Cond.fieldLink RX10 47 "ParametricFlowModel" "tailOf" "[I", Cond.fieldLink RX10 7 "ParametricFlowModel" "fromOf" "[I", Cond.fieldLink RX10 44 "ParametricFlowModel" "headOf" "[I", Cond.fieldLink RX10 13 "ParametricFlowModel" "toOf" "[I", Cond.fieldLink RX10 31 "ParametricFlowModel" "scaledCost" "[J", Cond.fieldLink RX10 19 "ParametricFlowModel" "costOf" "[I", Cond.fieldLink RX10 22 "ParametricFlowModel" "slopeOf" "[I", Cond.fieldLink RX10 35 "ParametricFlowModel" "scaledCapacity" "[J", Cond.fieldLink RX10 16 "ParametricFlowModel" "capacityOf" "[I"]
def wsX10_flow_r3 : List Cond := [Cond.fieldLink RX10 41 "ParametricFlowModel" "boundOf" "[I", Cond.fieldLink RX10 50 "ParametricFlowModel" "supplyNow" "[J", Cond.constantLong RX10 163 (4000000000000000000), Cond.fieldLink RX10 53 "ParametricFlowModel" "parentOf" "[I", Cond.fieldLink RX10 56 "ParametricFlowModel" "arcUp" "[I", Cond.methodLink RX10 108 yX10_size, Cond.static yX10_size, Cond.code yX10_size cX10_size 2 (some .long), Cond.methodLink RX10 165 yX10_layDepths, Cond.instanceMethod yX10_layDepths, Cond.selects RX10 yX10_layDepths yX10_layDepths, Cond.code yX10_layDepths cX10_layDepths 6 none, Cond.fieldLink RX10 59 "ParametricFlowModel" "depthOf" "[I", Cond.fieldLink RX10 62 "ParametricFlowModel" "potentialOf" "[J", Cond.methodLink RX10 201 yX10_entering, Cond.instanceMethod yX10_entering, Cond.selects RX10 yX10_entering yX10_entering, Cond.code yX10_entering cX10_entering 6 (some .int), Cond.methodLink RX10 168 yX10_reduced, Cond.instanceMethod yX10_reduced, Cond.selects RX10 yX10_reduced yX10_reduced, Cond.code yX10_reduced cX10_reduced 2 (some .long), Cond.methodLink RX10 205 yX10_pivotBy, Cond.instanceMethod yX10_pivotBy]
def wsX10_flow_r4 : List Cond := [Cond.selects RX10 yX10_pivotBy yX10_pivotBy, Cond.code yX10_pivotBy cX10_pivotBy 8 none, Cond.fieldLink RX10 176 "ParametricFlowModel" "cycleLong" "I", Cond.fieldLink RX10 71 "ParametricFlowModel" "cycleArc" "[I", Cond.fieldLink RX10 74 "ParametricFlowModel" "cycleAlong" "[Z", Cond.fieldLink RX10 65 "ParametricFlowModel" "entered" "[I", Cond.fieldLink RX10 68 "ParametricFlowModel" "left" "[I", Cond.methodLink RX10 179 yX10_layCycle, Cond.instanceMethod yX10_layCycle, Cond.selects RX10 yX10_layCycle yX10_layCycle, Cond.code yX10_layCycle cX10_layCycle 7 none, Cond.methodLink RX10 172 yX10_apexOf, Cond.instanceMethod yX10_apexOf, Cond.selects RX10 yX10_apexOf yX10_apexOf, Cond.code yX10_apexOf cX10_apexOf 5 (some .int), Cond.methodLink RX10 182 yX10_room, Cond.instanceMethod yX10_room, Cond.selects RX10 yX10_room yX10_room, Cond.code yX10_room cX10_room 3 (some .long), Cond.methodLink RX10 185 yX10_isBelow, Cond.instanceMethod yX10_isBelow, Cond.selects RX10 yX10_isBelow yX10_isBelow, Cond.code yX10_isBelow cX10_isBelow 4 (some .boolean), Cond.methodLink RX10 189 yX10_hang]
def wsX10_flow_r5 : List Cond := [Cond.instanceMethod yX10_hang, Cond.selects RX10 yX10_hang yX10_hang, Cond.code yX10_hang cX10_hang 11 none, Cond.methodLink RX10 235 yX10_part, Cond.static yX10_part, Cond.code yX10_part cX10_part 7 (some .long), Cond.constantLong RX10 116 (-1), Cond.methodLink RX10 112 yX10_common, Cond.static yX10_common, Cond.code yX10_common cX10_common 10 (some .long)]
def wsX10_flow : List Cond := .code yX10_flow cX10_flow 3 (some .long) :: ((wsX10_flow_r1 ++ (wsX10_flow_r2 ++ (wsX10_flow_r3 ++ (wsX10_flow_r4 ++ wsX10_flow_r5)))) ++ wsX100)
def wsX10_reducedCost_r1 : List Cond := [Cond.fieldLink RX10 128 "ParametricFlowModel" "isSolved" "Z", Cond.methodLink RX10 149 yX10_noArc, Cond.instanceMethod yX10_noArc, Cond.selects RX10 yX10_noArc yX10_noArc, Cond.initialized RX10, Cond.code yX10_noArc cX10_noArc 2 (some .boolean), Cond.fieldLink RX10 122 "ParametricFlowModel" "arcs" "I", Cond.methodLink RX10 132 yX10_in, Cond.static yX10_in, Cond.code yX10_in cX10_in 3 (some .boolean), Cond.methodLink RX10 228 yX10_lost, Cond.static yX10_lost, Cond.code yX10_lost cX10_lost 0 (some .long), Cond.constantLong RX10 106 (-9223372036854775808), Cond.methodLink RX10 221 yX10_findAgain, Cond.instanceMethod yX10_findAgain, Cond.selects RX10 yX10_findAgain yX10_findAgain, Cond.code yX10_findAgain cX10_findAgain 1 none, Cond.fieldLink RX10 208 "ParametricFlowModel" "solvedP" "I", Cond.fieldLink RX10 211 "ParametricFlowModel" "solvedQ" "I", Cond.methodLink RX10 214 yX10_tryAt, Cond.instanceMethod yX10_tryAt, Cond.selects RX10 yX10_tryAt yX10_tryAt, Cond.code yX10_tryAt cX10_tryAt 6 (some .int)]
def wsX10_reducedCost_r2 : List Cond := [Cond.fieldLink RX10 118 "ParametricFlowModel" "nodes" "I", Cond.fieldLink RX10 38 "ParametricFlowModel" "flowOn" "[J", Cond.methodLink RX10 193 yX10_isBalanced, Cond.instanceMethod yX10_isBalanced, Cond.selects RX10 yX10_isBalanced yX10_isBalanced, Cond.code yX10_isBalanced cX10_isBalanced 8 (some .boolean), Cond.fieldLink RX10 125 "ParametricFlowModel" "mode" "I", Cond.fieldLink RX10 25 "ParametricFlowModel" "supplyOf" "[I", Cond.fieldLink RX10 28 "ParametricFlowModel" "supplySlope" "[I", Cond.methodLink RX10 197 yX10_lay, Cond.instanceMethod yX10_lay, Cond.selects RX10 yX10_lay yX10_lay, Cond.code yX10_lay cX10_lay 9 none, Cond.fieldLink RX10 156 "ParametricFlowModel" "unit" "J", Cond.fieldLink RX10 160 "ParametricFlowModel" "pivots" "I", Cond.fieldLink RX10 47 "ParametricFlowModel" "tailOf" "[I", Cond.fieldLink RX10 7 "ParametricFlowModel" "fromOf" "[I", Cond.fieldLink RX10 44 "ParametricFlowModel" "headOf" "[I", Cond.fieldLink RX10 13 "ParametricFlowModel" "toOf" "[I", Cond.fieldLink RX10 31 "ParametricFlowModel" "scaledCost" "[J", Cond.fieldLink RX10 19 "ParametricFlowModel" "costOf" "[I", Cond.fieldLink RX10 22 "ParametricFlowModel" "slopeOf" "[I", Cond.fieldLink RX10 35 "ParametricFlowModel" "scaledCapacity" "[J", Cond.fieldLink RX10 16 "ParametricFlowModel" "capacityOf" "[I"]
def wsX10_reducedCost_r3 : List Cond := [Cond.fieldLink RX10 41 "ParametricFlowModel" "boundOf" "[I", Cond.fieldLink RX10 50 "ParametricFlowModel" "supplyNow" "[J", Cond.constantLong RX10 163 (4000000000000000000), Cond.fieldLink RX10 53 "ParametricFlowModel" "parentOf" "[I", Cond.fieldLink RX10 56 "ParametricFlowModel" "arcUp" "[I", Cond.methodLink RX10 108 yX10_size, Cond.static yX10_size, Cond.code yX10_size cX10_size 2 (some .long), Cond.methodLink RX10 165 yX10_layDepths, Cond.instanceMethod yX10_layDepths, Cond.selects RX10 yX10_layDepths yX10_layDepths, Cond.code yX10_layDepths cX10_layDepths 6 none, Cond.fieldLink RX10 59 "ParametricFlowModel" "depthOf" "[I", Cond.fieldLink RX10 62 "ParametricFlowModel" "potentialOf" "[J", Cond.methodLink RX10 201 yX10_entering, Cond.instanceMethod yX10_entering, Cond.selects RX10 yX10_entering yX10_entering, Cond.code yX10_entering cX10_entering 6 (some .int), Cond.methodLink RX10 168 yX10_reduced, Cond.instanceMethod yX10_reduced, Cond.selects RX10 yX10_reduced yX10_reduced, Cond.code yX10_reduced cX10_reduced 2 (some .long), Cond.methodLink RX10 205 yX10_pivotBy, Cond.instanceMethod yX10_pivotBy]
def wsX10_reducedCost_r4 : List Cond := [Cond.selects RX10 yX10_pivotBy yX10_pivotBy, Cond.code yX10_pivotBy cX10_pivotBy 8 none, Cond.fieldLink RX10 176 "ParametricFlowModel" "cycleLong" "I", Cond.fieldLink RX10 71 "ParametricFlowModel" "cycleArc" "[I", Cond.fieldLink RX10 74 "ParametricFlowModel" "cycleAlong" "[Z", Cond.fieldLink RX10 65 "ParametricFlowModel" "entered" "[I", Cond.fieldLink RX10 68 "ParametricFlowModel" "left" "[I", Cond.methodLink RX10 179 yX10_layCycle, Cond.instanceMethod yX10_layCycle, Cond.selects RX10 yX10_layCycle yX10_layCycle, Cond.code yX10_layCycle cX10_layCycle 7 none, Cond.methodLink RX10 172 yX10_apexOf, Cond.instanceMethod yX10_apexOf, Cond.selects RX10 yX10_apexOf yX10_apexOf, Cond.code yX10_apexOf cX10_apexOf 5 (some .int), Cond.methodLink RX10 182 yX10_room, Cond.instanceMethod yX10_room, Cond.selects RX10 yX10_room yX10_room, Cond.code yX10_room cX10_room 3 (some .long), Cond.methodLink RX10 185 yX10_isBelow, Cond.instanceMethod yX10_isBelow, Cond.selects RX10 yX10_isBelow yX10_isBelow, Cond.code yX10_isBelow cX10_isBelow 4 (some .boolean), Cond.methodLink RX10 189 yX10_hang]
def wsX10_reducedCost_r5 : List Cond := [Cond.instanceMethod yX10_hang, Cond.selects RX10 yX10_hang yX10_hang, Cond.code yX10_hang cX10_hang 11 none]
def wsX10_reducedCost : List Cond := .code yX10_reducedCost cX10_reducedCost 2 (some .long) :: ((wsX10_reducedCost_r1 ++ (wsX10_reducedCost_r2 ++ (wsX10_reducedCost_r3 ++ (wsX10_reducedCost_r4 ++ wsX10_reducedCost_r5)))) ++ wsX100)
def wsX10_potential_r1 : List Cond := [Cond.fieldLink RX10 128 "ParametricFlowModel" "isSolved" "Z", Cond.fieldLink RX10 62 "ParametricFlowModel" "potentialOf" "[J", Cond.methodLink RX10 136 yX10_noNode, Cond.instanceMethod yX10_noNode, Cond.selects RX10 yX10_noNode yX10_noNode, Cond.initialized RX10, Cond.code yX10_noNode cX10_noNode 2 (some .boolean), Cond.fieldLink RX10 118 "ParametricFlowModel" "nodes" "I", Cond.methodLink RX10 132 yX10_in, Cond.static yX10_in, Cond.code yX10_in cX10_in 3 (some .boolean), Cond.methodLink RX10 228 yX10_lost, Cond.static yX10_lost, Cond.code yX10_lost cX10_lost 0 (some .long), Cond.constantLong RX10 106 (-9223372036854775808), Cond.methodLink RX10 221 yX10_findAgain, Cond.instanceMethod yX10_findAgain, Cond.selects RX10 yX10_findAgain yX10_findAgain, Cond.code yX10_findAgain cX10_findAgain 1 none, Cond.fieldLink RX10 208 "ParametricFlowModel" "solvedP" "I", Cond.fieldLink RX10 211 "ParametricFlowModel" "solvedQ" "I", Cond.methodLink RX10 214 yX10_tryAt, Cond.instanceMethod yX10_tryAt, Cond.selects RX10 yX10_tryAt yX10_tryAt]
def wsX10_potential_r2 : List Cond := [Cond.code yX10_tryAt cX10_tryAt 6 (some .int), Cond.fieldLink RX10 38 "ParametricFlowModel" "flowOn" "[J", Cond.methodLink RX10 193 yX10_isBalanced, Cond.instanceMethod yX10_isBalanced, Cond.selects RX10 yX10_isBalanced yX10_isBalanced, Cond.code yX10_isBalanced cX10_isBalanced 8 (some .boolean), Cond.fieldLink RX10 125 "ParametricFlowModel" "mode" "I", Cond.fieldLink RX10 25 "ParametricFlowModel" "supplyOf" "[I", Cond.fieldLink RX10 28 "ParametricFlowModel" "supplySlope" "[I", Cond.methodLink RX10 197 yX10_lay, Cond.instanceMethod yX10_lay, Cond.selects RX10 yX10_lay yX10_lay, Cond.code yX10_lay cX10_lay 9 none, Cond.fieldLink RX10 156 "ParametricFlowModel" "unit" "J", Cond.fieldLink RX10 160 "ParametricFlowModel" "pivots" "I", Cond.fieldLink RX10 122 "ParametricFlowModel" "arcs" "I", Cond.fieldLink RX10 47 "ParametricFlowModel" "tailOf" "[I", Cond.fieldLink RX10 7 "ParametricFlowModel" "fromOf" "[I", Cond.fieldLink RX10 44 "ParametricFlowModel" "headOf" "[I", Cond.fieldLink RX10 13 "ParametricFlowModel" "toOf" "[I", Cond.fieldLink RX10 31 "ParametricFlowModel" "scaledCost" "[J", Cond.fieldLink RX10 19 "ParametricFlowModel" "costOf" "[I", Cond.fieldLink RX10 22 "ParametricFlowModel" "slopeOf" "[I", Cond.fieldLink RX10 35 "ParametricFlowModel" "scaledCapacity" "[J"]
def wsX10_potential_r3 : List Cond := [Cond.fieldLink RX10 16 "ParametricFlowModel" "capacityOf" "[I", Cond.fieldLink RX10 41 "ParametricFlowModel" "boundOf" "[I", Cond.fieldLink RX10 50 "ParametricFlowModel" "supplyNow" "[J", Cond.constantLong RX10 163 (4000000000000000000), Cond.fieldLink RX10 53 "ParametricFlowModel" "parentOf" "[I", Cond.fieldLink RX10 56 "ParametricFlowModel" "arcUp" "[I", Cond.methodLink RX10 108 yX10_size, Cond.static yX10_size, Cond.code yX10_size cX10_size 2 (some .long), Cond.methodLink RX10 165 yX10_layDepths, Cond.instanceMethod yX10_layDepths, Cond.selects RX10 yX10_layDepths yX10_layDepths, Cond.code yX10_layDepths cX10_layDepths 6 none, Cond.fieldLink RX10 59 "ParametricFlowModel" "depthOf" "[I", Cond.methodLink RX10 201 yX10_entering, Cond.instanceMethod yX10_entering, Cond.selects RX10 yX10_entering yX10_entering, Cond.code yX10_entering cX10_entering 6 (some .int), Cond.methodLink RX10 168 yX10_reduced, Cond.instanceMethod yX10_reduced, Cond.selects RX10 yX10_reduced yX10_reduced, Cond.code yX10_reduced cX10_reduced 2 (some .long), Cond.methodLink RX10 205 yX10_pivotBy, Cond.instanceMethod yX10_pivotBy]
def wsX10_potential_r4 : List Cond := [Cond.selects RX10 yX10_pivotBy yX10_pivotBy, Cond.code yX10_pivotBy cX10_pivotBy 8 none, Cond.fieldLink RX10 176 "ParametricFlowModel" "cycleLong" "I", Cond.fieldLink RX10 71 "ParametricFlowModel" "cycleArc" "[I", Cond.fieldLink RX10 74 "ParametricFlowModel" "cycleAlong" "[Z", Cond.fieldLink RX10 65 "ParametricFlowModel" "entered" "[I", Cond.fieldLink RX10 68 "ParametricFlowModel" "left" "[I", Cond.methodLink RX10 179 yX10_layCycle, Cond.instanceMethod yX10_layCycle, Cond.selects RX10 yX10_layCycle yX10_layCycle, Cond.code yX10_layCycle cX10_layCycle 7 none, Cond.methodLink RX10 172 yX10_apexOf, Cond.instanceMethod yX10_apexOf, Cond.selects RX10 yX10_apexOf yX10_apexOf, Cond.code yX10_apexOf cX10_apexOf 5 (some .int), Cond.methodLink RX10 182 yX10_room, Cond.instanceMethod yX10_room, Cond.selects RX10 yX10_room yX10_room, Cond.code yX10_room cX10_room 3 (some .long), Cond.methodLink RX10 185 yX10_isBelow, Cond.instanceMethod yX10_isBelow, Cond.selects RX10 yX10_isBelow yX10_isBelow, Cond.code yX10_isBelow cX10_isBelow 4 (some .boolean), Cond.methodLink RX10 189 yX10_hang]
def wsX10_potential_r5 : List Cond := [Cond.instanceMethod yX10_hang, Cond.selects RX10 yX10_hang yX10_hang, Cond.code yX10_hang cX10_hang 11 none]
def wsX10_potential : List Cond := .code yX10_potential cX10_potential 2 (some .long) :: ((wsX10_potential_r1 ++ (wsX10_potential_r2 ++ (wsX10_potential_r3 ++ (wsX10_potential_r4 ++ wsX10_potential_r5)))) ++ wsX100)
def wsX10_bound_r1 : List Cond := [Cond.fieldLink RX10 128 "ParametricFlowModel" "isSolved" "Z", Cond.fieldLink RX10 41 "ParametricFlowModel" "boundOf" "[I", Cond.methodLink RX10 149 yX10_noArc, Cond.instanceMethod yX10_noArc, Cond.selects RX10 yX10_noArc yX10_noArc, Cond.initialized RX10, Cond.code yX10_noArc cX10_noArc 2 (some .boolean), Cond.fieldLink RX10 122 "ParametricFlowModel" "arcs" "I", Cond.methodLink RX10 132 yX10_in, Cond.static yX10_in, Cond.code yX10_in cX10_in 3 (some .boolean), Cond.methodLink RX10 221 yX10_findAgain, Cond.instanceMethod yX10_findAgain, Cond.selects RX10 yX10_findAgain yX10_findAgain, Cond.code yX10_findAgain cX10_findAgain 1 none, Cond.fieldLink RX10 208 "ParametricFlowModel" "solvedP" "I", Cond.fieldLink RX10 211 "ParametricFlowModel" "solvedQ" "I", Cond.methodLink RX10 214 yX10_tryAt, Cond.instanceMethod yX10_tryAt, Cond.selects RX10 yX10_tryAt yX10_tryAt, Cond.code yX10_tryAt cX10_tryAt 6 (some .int), Cond.fieldLink RX10 118 "ParametricFlowModel" "nodes" "I", Cond.fieldLink RX10 38 "ParametricFlowModel" "flowOn" "[J", Cond.methodLink RX10 193 yX10_isBalanced]
def wsX10_bound_r2 : List Cond := [Cond.instanceMethod yX10_isBalanced, Cond.selects RX10 yX10_isBalanced yX10_isBalanced, Cond.code yX10_isBalanced cX10_isBalanced 8 (some .boolean), Cond.fieldLink RX10 125 "ParametricFlowModel" "mode" "I", Cond.fieldLink RX10 25 "ParametricFlowModel" "supplyOf" "[I", Cond.fieldLink RX10 28 "ParametricFlowModel" "supplySlope" "[I", Cond.methodLink RX10 197 yX10_lay, Cond.instanceMethod yX10_lay, Cond.selects RX10 yX10_lay yX10_lay, Cond.code yX10_lay cX10_lay 9 none, Cond.fieldLink RX10 156 "ParametricFlowModel" "unit" "J", Cond.fieldLink RX10 160 "ParametricFlowModel" "pivots" "I", Cond.fieldLink RX10 47 "ParametricFlowModel" "tailOf" "[I", Cond.fieldLink RX10 7 "ParametricFlowModel" "fromOf" "[I", Cond.fieldLink RX10 44 "ParametricFlowModel" "headOf" "[I", Cond.fieldLink RX10 13 "ParametricFlowModel" "toOf" "[I", Cond.fieldLink RX10 31 "ParametricFlowModel" "scaledCost" "[J", Cond.fieldLink RX10 19 "ParametricFlowModel" "costOf" "[I", Cond.fieldLink RX10 22 "ParametricFlowModel" "slopeOf" "[I", Cond.fieldLink RX10 35 "ParametricFlowModel" "scaledCapacity" "[J", Cond.fieldLink RX10 16 "ParametricFlowModel" "capacityOf" "[I", Cond.fieldLink RX10 50 "ParametricFlowModel" "supplyNow" "[J", Cond.constantLong RX10 163 (4000000000000000000), Cond.fieldLink RX10 53 "ParametricFlowModel" "parentOf" "[I"]
def wsX10_bound_r3 : List Cond := [Cond.fieldLink RX10 56 "ParametricFlowModel" "arcUp" "[I", Cond.methodLink RX10 108 yX10_size, Cond.static yX10_size, Cond.code yX10_size cX10_size 2 (some .long), Cond.methodLink RX10 165 yX10_layDepths, Cond.instanceMethod yX10_layDepths, Cond.selects RX10 yX10_layDepths yX10_layDepths, Cond.code yX10_layDepths cX10_layDepths 6 none, Cond.fieldLink RX10 59 "ParametricFlowModel" "depthOf" "[I", Cond.fieldLink RX10 62 "ParametricFlowModel" "potentialOf" "[J", Cond.methodLink RX10 201 yX10_entering, Cond.instanceMethod yX10_entering, Cond.selects RX10 yX10_entering yX10_entering, Cond.code yX10_entering cX10_entering 6 (some .int), Cond.methodLink RX10 168 yX10_reduced, Cond.instanceMethod yX10_reduced, Cond.selects RX10 yX10_reduced yX10_reduced, Cond.code yX10_reduced cX10_reduced 2 (some .long), Cond.methodLink RX10 205 yX10_pivotBy, Cond.instanceMethod yX10_pivotBy, Cond.selects RX10 yX10_pivotBy yX10_pivotBy, Cond.code yX10_pivotBy cX10_pivotBy 8 none, Cond.fieldLink RX10 176 "ParametricFlowModel" "cycleLong" "I", Cond.fieldLink RX10 71 "ParametricFlowModel" "cycleArc" "[I"]
def wsX10_bound_r4 : List Cond := [Cond.fieldLink RX10 74 "ParametricFlowModel" "cycleAlong" "[Z", Cond.fieldLink RX10 65 "ParametricFlowModel" "entered" "[I", Cond.fieldLink RX10 68 "ParametricFlowModel" "left" "[I", Cond.methodLink RX10 179 yX10_layCycle, Cond.instanceMethod yX10_layCycle, Cond.selects RX10 yX10_layCycle yX10_layCycle, Cond.code yX10_layCycle cX10_layCycle 7 none, Cond.methodLink RX10 172 yX10_apexOf, Cond.instanceMethod yX10_apexOf, Cond.selects RX10 yX10_apexOf yX10_apexOf, Cond.code yX10_apexOf cX10_apexOf 5 (some .int), Cond.methodLink RX10 182 yX10_room, Cond.instanceMethod yX10_room, Cond.selects RX10 yX10_room yX10_room, Cond.code yX10_room cX10_room 3 (some .long), Cond.methodLink RX10 185 yX10_isBelow, Cond.instanceMethod yX10_isBelow, Cond.selects RX10 yX10_isBelow yX10_isBelow, Cond.code yX10_isBelow cX10_isBelow 4 (some .boolean), Cond.methodLink RX10 189 yX10_hang, Cond.instanceMethod yX10_hang, Cond.selects RX10 yX10_hang yX10_hang, Cond.code yX10_hang cX10_hang 11 none]
def wsX10_bound : List Cond := .code yX10_bound cX10_bound 2 (some .int) :: ((wsX10_bound_r1 ++ (wsX10_bound_r2 ++ (wsX10_bound_r3 ++ wsX10_bound_r4))) ++ wsX100)
def wsX10_tree_r1 : List Cond := [Cond.fieldLink RX10 128 "ParametricFlowModel" "isSolved" "Z", Cond.fieldLink RX10 118 "ParametricFlowModel" "nodes" "I", Cond.fieldLink RX10 53 "ParametricFlowModel" "parentOf" "[I", Cond.fieldLink RX10 56 "ParametricFlowModel" "arcUp" "[I", Cond.fieldLink RX10 59 "ParametricFlowModel" "depthOf" "[I", Cond.methodLink RX10 136 yX10_noNode, Cond.instanceMethod yX10_noNode, Cond.selects RX10 yX10_noNode yX10_noNode, Cond.initialized RX10, Cond.code yX10_noNode cX10_noNode 2 (some .boolean), Cond.methodLink RX10 132 yX10_in, Cond.static yX10_in, Cond.code yX10_in cX10_in 3 (some .boolean), Cond.methodLink RX10 221 yX10_findAgain, Cond.instanceMethod yX10_findAgain, Cond.selects RX10 yX10_findAgain yX10_findAgain, Cond.code yX10_findAgain cX10_findAgain 1 none, Cond.fieldLink RX10 208 "ParametricFlowModel" "solvedP" "I", Cond.fieldLink RX10 211 "ParametricFlowModel" "solvedQ" "I", Cond.methodLink RX10 214 yX10_tryAt, Cond.instanceMethod yX10_tryAt, Cond.selects RX10 yX10_tryAt yX10_tryAt, Cond.code yX10_tryAt cX10_tryAt 6 (some .int), Cond.fieldLink RX10 38 "ParametricFlowModel" "flowOn" "[J"]
def wsX10_tree_r2 : List Cond := [Cond.methodLink RX10 193 yX10_isBalanced, Cond.instanceMethod yX10_isBalanced, Cond.selects RX10 yX10_isBalanced yX10_isBalanced, Cond.code yX10_isBalanced cX10_isBalanced 8 (some .boolean), Cond.fieldLink RX10 125 "ParametricFlowModel" "mode" "I", Cond.fieldLink RX10 25 "ParametricFlowModel" "supplyOf" "[I", Cond.fieldLink RX10 28 "ParametricFlowModel" "supplySlope" "[I", Cond.methodLink RX10 197 yX10_lay, Cond.instanceMethod yX10_lay, Cond.selects RX10 yX10_lay yX10_lay, Cond.code yX10_lay cX10_lay 9 none, Cond.fieldLink RX10 156 "ParametricFlowModel" "unit" "J", Cond.fieldLink RX10 160 "ParametricFlowModel" "pivots" "I", Cond.fieldLink RX10 122 "ParametricFlowModel" "arcs" "I", Cond.fieldLink RX10 47 "ParametricFlowModel" "tailOf" "[I", Cond.fieldLink RX10 7 "ParametricFlowModel" "fromOf" "[I", Cond.fieldLink RX10 44 "ParametricFlowModel" "headOf" "[I", Cond.fieldLink RX10 13 "ParametricFlowModel" "toOf" "[I", Cond.fieldLink RX10 31 "ParametricFlowModel" "scaledCost" "[J", Cond.fieldLink RX10 19 "ParametricFlowModel" "costOf" "[I", Cond.fieldLink RX10 22 "ParametricFlowModel" "slopeOf" "[I", Cond.fieldLink RX10 35 "ParametricFlowModel" "scaledCapacity" "[J", Cond.fieldLink RX10 16 "ParametricFlowModel" "capacityOf" "[I", Cond.fieldLink RX10 41 "ParametricFlowModel" "boundOf" "[I"]
def wsX10_tree_r3 : List Cond := [Cond.fieldLink RX10 50 "ParametricFlowModel" "supplyNow" "[J", Cond.constantLong RX10 163 (4000000000000000000), Cond.methodLink RX10 108 yX10_size, Cond.static yX10_size, Cond.code yX10_size cX10_size 2 (some .long), Cond.methodLink RX10 165 yX10_layDepths, Cond.instanceMethod yX10_layDepths, Cond.selects RX10 yX10_layDepths yX10_layDepths, Cond.code yX10_layDepths cX10_layDepths 6 none, Cond.fieldLink RX10 62 "ParametricFlowModel" "potentialOf" "[J", Cond.methodLink RX10 201 yX10_entering, Cond.instanceMethod yX10_entering, Cond.selects RX10 yX10_entering yX10_entering, Cond.code yX10_entering cX10_entering 6 (some .int), Cond.methodLink RX10 168 yX10_reduced, Cond.instanceMethod yX10_reduced, Cond.selects RX10 yX10_reduced yX10_reduced, Cond.code yX10_reduced cX10_reduced 2 (some .long), Cond.methodLink RX10 205 yX10_pivotBy, Cond.instanceMethod yX10_pivotBy, Cond.selects RX10 yX10_pivotBy yX10_pivotBy, Cond.code yX10_pivotBy cX10_pivotBy 8 none, Cond.fieldLink RX10 176 "ParametricFlowModel" "cycleLong" "I", Cond.fieldLink RX10 71 "ParametricFlowModel" "cycleArc" "[I"]
def wsX10_tree_r4 : List Cond := [Cond.fieldLink RX10 74 "ParametricFlowModel" "cycleAlong" "[Z", Cond.fieldLink RX10 65 "ParametricFlowModel" "entered" "[I", Cond.fieldLink RX10 68 "ParametricFlowModel" "left" "[I", Cond.methodLink RX10 179 yX10_layCycle, Cond.instanceMethod yX10_layCycle, Cond.selects RX10 yX10_layCycle yX10_layCycle, Cond.code yX10_layCycle cX10_layCycle 7 none, Cond.methodLink RX10 172 yX10_apexOf, Cond.instanceMethod yX10_apexOf, Cond.selects RX10 yX10_apexOf yX10_apexOf, Cond.code yX10_apexOf cX10_apexOf 5 (some .int), Cond.methodLink RX10 182 yX10_room, Cond.instanceMethod yX10_room, Cond.selects RX10 yX10_room yX10_room, Cond.code yX10_room cX10_room 3 (some .long), Cond.methodLink RX10 185 yX10_isBelow, Cond.instanceMethod yX10_isBelow, Cond.selects RX10 yX10_isBelow yX10_isBelow, Cond.code yX10_isBelow cX10_isBelow 4 (some .boolean), Cond.methodLink RX10 189 yX10_hang, Cond.instanceMethod yX10_hang, Cond.selects RX10 yX10_hang yX10_hang, Cond.code yX10_hang cX10_hang 11 none, Cond.methodLink RX10 224 yX10_told]
def wsX10_tree_r5 : List Cond := [Cond.static yX10_told, Cond.code yX10_told cX10_told 1 (some .int)]
def wsX10_tree : List Cond := .code yX10_tree cX10_tree 5 (some .int) :: ((wsX10_tree_r1 ++ (wsX10_tree_r2 ++ (wsX10_tree_r3 ++ (wsX10_tree_r4 ++ wsX10_tree_r5)))) ++ wsX100)
def wsX10_preorder_r1 : List Cond := [Cond.fieldLink RX10 128 "ParametricFlowModel" "isSolved" "Z", Cond.fieldLink RX10 118 "ParametricFlowModel" "nodes" "I", Cond.methodLink RX10 221 yX10_findAgain, Cond.instanceMethod yX10_findAgain, Cond.selects RX10 yX10_findAgain yX10_findAgain, Cond.initialized RX10, Cond.code yX10_findAgain cX10_findAgain 1 none, Cond.fieldLink RX10 208 "ParametricFlowModel" "solvedP" "I", Cond.fieldLink RX10 211 "ParametricFlowModel" "solvedQ" "I", Cond.methodLink RX10 214 yX10_tryAt, Cond.instanceMethod yX10_tryAt, Cond.selects RX10 yX10_tryAt yX10_tryAt, Cond.code yX10_tryAt cX10_tryAt 6 (some .int), Cond.fieldLink RX10 38 "ParametricFlowModel" "flowOn" "[J", Cond.methodLink RX10 193 yX10_isBalanced, Cond.instanceMethod yX10_isBalanced, Cond.selects RX10 yX10_isBalanced yX10_isBalanced, Cond.code yX10_isBalanced cX10_isBalanced 8 (some .boolean), Cond.fieldLink RX10 125 "ParametricFlowModel" "mode" "I", Cond.fieldLink RX10 25 "ParametricFlowModel" "supplyOf" "[I", Cond.fieldLink RX10 28 "ParametricFlowModel" "supplySlope" "[I", Cond.methodLink RX10 197 yX10_lay, Cond.instanceMethod yX10_lay, Cond.selects RX10 yX10_lay yX10_lay]
def wsX10_preorder_r2 : List Cond := [Cond.code yX10_lay cX10_lay 9 none, Cond.fieldLink RX10 156 "ParametricFlowModel" "unit" "J", Cond.fieldLink RX10 160 "ParametricFlowModel" "pivots" "I", Cond.fieldLink RX10 122 "ParametricFlowModel" "arcs" "I", Cond.fieldLink RX10 47 "ParametricFlowModel" "tailOf" "[I", Cond.fieldLink RX10 7 "ParametricFlowModel" "fromOf" "[I", Cond.fieldLink RX10 44 "ParametricFlowModel" "headOf" "[I", Cond.fieldLink RX10 13 "ParametricFlowModel" "toOf" "[I", Cond.fieldLink RX10 31 "ParametricFlowModel" "scaledCost" "[J", Cond.fieldLink RX10 19 "ParametricFlowModel" "costOf" "[I", Cond.fieldLink RX10 22 "ParametricFlowModel" "slopeOf" "[I", Cond.fieldLink RX10 35 "ParametricFlowModel" "scaledCapacity" "[J", Cond.fieldLink RX10 16 "ParametricFlowModel" "capacityOf" "[I", Cond.fieldLink RX10 41 "ParametricFlowModel" "boundOf" "[I", Cond.fieldLink RX10 50 "ParametricFlowModel" "supplyNow" "[J", Cond.constantLong RX10 163 (4000000000000000000), Cond.fieldLink RX10 53 "ParametricFlowModel" "parentOf" "[I", Cond.fieldLink RX10 56 "ParametricFlowModel" "arcUp" "[I", Cond.methodLink RX10 108 yX10_size, Cond.static yX10_size, Cond.code yX10_size cX10_size 2 (some .long), Cond.methodLink RX10 165 yX10_layDepths, Cond.instanceMethod yX10_layDepths, Cond.selects RX10 yX10_layDepths yX10_layDepths]
def wsX10_preorder_r3 : List Cond := [Cond.code yX10_layDepths cX10_layDepths 6 none, Cond.fieldLink RX10 59 "ParametricFlowModel" "depthOf" "[I", Cond.fieldLink RX10 62 "ParametricFlowModel" "potentialOf" "[J", Cond.methodLink RX10 201 yX10_entering, Cond.instanceMethod yX10_entering, Cond.selects RX10 yX10_entering yX10_entering, Cond.code yX10_entering cX10_entering 6 (some .int), Cond.methodLink RX10 168 yX10_reduced, Cond.instanceMethod yX10_reduced, Cond.selects RX10 yX10_reduced yX10_reduced, Cond.code yX10_reduced cX10_reduced 2 (some .long), Cond.methodLink RX10 205 yX10_pivotBy, Cond.instanceMethod yX10_pivotBy, Cond.selects RX10 yX10_pivotBy yX10_pivotBy, Cond.code yX10_pivotBy cX10_pivotBy 8 none, Cond.fieldLink RX10 176 "ParametricFlowModel" "cycleLong" "I", Cond.fieldLink RX10 71 "ParametricFlowModel" "cycleArc" "[I", Cond.fieldLink RX10 74 "ParametricFlowModel" "cycleAlong" "[Z", Cond.fieldLink RX10 65 "ParametricFlowModel" "entered" "[I", Cond.fieldLink RX10 68 "ParametricFlowModel" "left" "[I", Cond.methodLink RX10 179 yX10_layCycle, Cond.instanceMethod yX10_layCycle, Cond.selects RX10 yX10_layCycle yX10_layCycle, Cond.code yX10_layCycle cX10_layCycle 7 none]
def wsX10_preorder_r4 : List Cond := [Cond.methodLink RX10 172 yX10_apexOf, Cond.instanceMethod yX10_apexOf, Cond.selects RX10 yX10_apexOf yX10_apexOf, Cond.code yX10_apexOf cX10_apexOf 5 (some .int), Cond.methodLink RX10 182 yX10_room, Cond.instanceMethod yX10_room, Cond.selects RX10 yX10_room yX10_room, Cond.code yX10_room cX10_room 3 (some .long), Cond.methodLink RX10 185 yX10_isBelow, Cond.instanceMethod yX10_isBelow, Cond.selects RX10 yX10_isBelow yX10_isBelow, Cond.code yX10_isBelow cX10_isBelow 4 (some .boolean), Cond.methodLink RX10 189 yX10_hang, Cond.instanceMethod yX10_hang, Cond.selects RX10 yX10_hang yX10_hang, Cond.code yX10_hang cX10_hang 11 none, Cond.methodLink RX10 239 yX10_after, Cond.instanceMethod yX10_after, Cond.selects RX10 yX10_after yX10_after, Cond.code yX10_after cX10_after 7 (some .int)]
def wsX10_preorder : List Cond := .code yX10_preorder cX10_preorder 4 (some .int) :: ((wsX10_preorder_r1 ++ (wsX10_preorder_r2 ++ (wsX10_preorder_r3 ++ wsX10_preorder_r4))) ++ wsX100)
def wsX10_limit_r1 : List Cond := [Cond.fieldLink RX10 128 "ParametricFlowModel" "isSolved" "Z", Cond.fieldLink RX10 251 "ParametricFlowModel" "hasHigh" "Z", Cond.fieldLink RX10 257 "ParametricFlowModel" "highOver" "J", Cond.fieldLink RX10 254 "ParametricFlowModel" "highUnder" "J", Cond.fieldLink RX10 242 "ParametricFlowModel" "hasLow" "Z", Cond.fieldLink RX10 248 "ParametricFlowModel" "lowOver" "J", Cond.fieldLink RX10 245 "ParametricFlowModel" "lowUnder" "J", Cond.methodLink RX10 228 yX10_lost, Cond.static yX10_lost, Cond.initialized RX10, Cond.code yX10_lost cX10_lost 0 (some .long), Cond.constantLong RX10 106 (-9223372036854775808), Cond.methodLink RX10 221 yX10_findAgain, Cond.instanceMethod yX10_findAgain, Cond.selects RX10 yX10_findAgain yX10_findAgain, Cond.code yX10_findAgain cX10_findAgain 1 none, Cond.fieldLink RX10 208 "ParametricFlowModel" "solvedP" "I", Cond.fieldLink RX10 211 "ParametricFlowModel" "solvedQ" "I", Cond.methodLink RX10 214 yX10_tryAt, Cond.instanceMethod yX10_tryAt, Cond.selects RX10 yX10_tryAt yX10_tryAt, Cond.code yX10_tryAt cX10_tryAt 6 (some .int), Cond.fieldLink RX10 118 "ParametricFlowModel" "nodes" "I", Cond.fieldLink RX10 38 "ParametricFlowModel" "flowOn" "[J"]
def wsX10_limit_r2 : List Cond := [Cond.methodLink RX10 193 yX10_isBalanced, Cond.instanceMethod yX10_isBalanced, Cond.selects RX10 yX10_isBalanced yX10_isBalanced, Cond.code yX10_isBalanced cX10_isBalanced 8 (some .boolean), Cond.fieldLink RX10 125 "ParametricFlowModel" "mode" "I", Cond.fieldLink RX10 25 "ParametricFlowModel" "supplyOf" "[I", Cond.fieldLink RX10 28 "ParametricFlowModel" "supplySlope" "[I", Cond.methodLink RX10 197 yX10_lay, Cond.instanceMethod yX10_lay, Cond.selects RX10 yX10_lay yX10_lay, Cond.code yX10_lay cX10_lay 9 none, Cond.fieldLink RX10 156 "ParametricFlowModel" "unit" "J", Cond.fieldLink RX10 160 "ParametricFlowModel" "pivots" "I", Cond.fieldLink RX10 122 "ParametricFlowModel" "arcs" "I", Cond.fieldLink RX10 47 "ParametricFlowModel" "tailOf" "[I", Cond.fieldLink RX10 7 "ParametricFlowModel" "fromOf" "[I", Cond.fieldLink RX10 44 "ParametricFlowModel" "headOf" "[I", Cond.fieldLink RX10 13 "ParametricFlowModel" "toOf" "[I", Cond.fieldLink RX10 31 "ParametricFlowModel" "scaledCost" "[J", Cond.fieldLink RX10 19 "ParametricFlowModel" "costOf" "[I", Cond.fieldLink RX10 22 "ParametricFlowModel" "slopeOf" "[I", Cond.fieldLink RX10 35 "ParametricFlowModel" "scaledCapacity" "[J", Cond.fieldLink RX10 16 "ParametricFlowModel" "capacityOf" "[I", Cond.fieldLink RX10 41 "ParametricFlowModel" "boundOf" "[I"]
def wsX10_limit_r3 : List Cond := [Cond.fieldLink RX10 50 "ParametricFlowModel" "supplyNow" "[J", Cond.constantLong RX10 163 (4000000000000000000), Cond.fieldLink RX10 53 "ParametricFlowModel" "parentOf" "[I", Cond.fieldLink RX10 56 "ParametricFlowModel" "arcUp" "[I", Cond.methodLink RX10 108 yX10_size, Cond.static yX10_size, Cond.code yX10_size cX10_size 2 (some .long), Cond.methodLink RX10 165 yX10_layDepths, Cond.instanceMethod yX10_layDepths, Cond.selects RX10 yX10_layDepths yX10_layDepths, Cond.code yX10_layDepths cX10_layDepths 6 none, Cond.fieldLink RX10 59 "ParametricFlowModel" "depthOf" "[I", Cond.fieldLink RX10 62 "ParametricFlowModel" "potentialOf" "[J", Cond.methodLink RX10 201 yX10_entering, Cond.instanceMethod yX10_entering, Cond.selects RX10 yX10_entering yX10_entering, Cond.code yX10_entering cX10_entering 6 (some .int), Cond.methodLink RX10 168 yX10_reduced, Cond.instanceMethod yX10_reduced, Cond.selects RX10 yX10_reduced yX10_reduced, Cond.code yX10_reduced cX10_reduced 2 (some .long), Cond.methodLink RX10 205 yX10_pivotBy, Cond.instanceMethod yX10_pivotBy, Cond.selects RX10 yX10_pivotBy yX10_pivotBy]
def wsX10_limit_r4 : List Cond := [Cond.code yX10_pivotBy cX10_pivotBy 8 none, Cond.fieldLink RX10 176 "ParametricFlowModel" "cycleLong" "I", Cond.fieldLink RX10 71 "ParametricFlowModel" "cycleArc" "[I", Cond.fieldLink RX10 74 "ParametricFlowModel" "cycleAlong" "[Z", Cond.fieldLink RX10 65 "ParametricFlowModel" "entered" "[I", Cond.fieldLink RX10 68 "ParametricFlowModel" "left" "[I", Cond.methodLink RX10 179 yX10_layCycle, Cond.instanceMethod yX10_layCycle, Cond.selects RX10 yX10_layCycle yX10_layCycle, Cond.code yX10_layCycle cX10_layCycle 7 none, Cond.methodLink RX10 172 yX10_apexOf, Cond.instanceMethod yX10_apexOf, Cond.selects RX10 yX10_apexOf yX10_apexOf, Cond.code yX10_apexOf cX10_apexOf 5 (some .int), Cond.methodLink RX10 182 yX10_room, Cond.instanceMethod yX10_room, Cond.selects RX10 yX10_room yX10_room, Cond.code yX10_room cX10_room 3 (some .long), Cond.methodLink RX10 185 yX10_isBelow, Cond.instanceMethod yX10_isBelow, Cond.selects RX10 yX10_isBelow yX10_isBelow, Cond.code yX10_isBelow cX10_isBelow 4 (some .boolean), Cond.methodLink RX10 189 yX10_hang, Cond.instanceMethod yX10_hang]
def wsX10_limit_r5 : List Cond := [Cond.selects RX10 yX10_hang yX10_hang, Cond.code yX10_hang cX10_hang 11 none, Cond.methodLink RX10 269 yX10_findInterval, Cond.instanceMethod yX10_findInterval, Cond.selects RX10 yX10_findInterval yX10_findInterval, Cond.code yX10_findInterval cX10_findInterval 1 none, Cond.methodLink RX10 260 yX10_bindCosts, Cond.instanceMethod yX10_bindCosts, Cond.selects RX10 yX10_bindCosts yX10_bindCosts, Cond.code yX10_bindCosts cX10_bindCosts 10 none, Cond.fieldLink RX10 78 "ParametricFlowModel" "first" "[J", Cond.fieldLink RX10 81 "ParametricFlowModel" "second" "[J", Cond.methodLink RX10 266 yX10_bind, Cond.instanceMethod yX10_bind, Cond.selects RX10 yX10_bind yX10_bind, Cond.code yX10_bind cX10_bind 5 none, Cond.methodLink RX10 263 yX10_bindFlows, Cond.instanceMethod yX10_bindFlows, Cond.selects RX10 yX10_bindFlows yX10_bindFlows, Cond.code yX10_bindFlows cX10_bindFlows 9 none, Cond.methodLink RX10 235 yX10_part, Cond.static yX10_part, Cond.code yX10_part cX10_part 7 (some .long), Cond.constantLong RX10 116 (-1)]
def wsX10_limit_r6 : List Cond := [Cond.methodLink RX10 112 yX10_common, Cond.static yX10_common, Cond.code yX10_common cX10_common 10 (some .long)]
def wsX10_limit : List Cond := .code yX10_limit cX10_limit 3 (some .long) :: ((wsX10_limit_r1 ++ (wsX10_limit_r2 ++ (wsX10_limit_r3 ++ (wsX10_limit_r4 ++ (wsX10_limit_r5 ++ wsX10_limit_r6))))) ++ wsX100)
def wsX10_layLine : List Cond := .code yX10_layLine cX10_layLine 4 none :: ([.fieldLink RX10 272 "ParametricFlowModel" "lineFrom" "J", .fieldLink RX10 275 "ParametricFlowModel" "lineRise" "J", .fieldLink RX10 122 "ParametricFlowModel" "arcs" "I", .fieldLink RX10 125 "ParametricFlowModel" "mode" "I", .fieldLink RX10 38 "ParametricFlowModel" "flowOn" "[J", .fieldLink RX10 19 "ParametricFlowModel" "costOf" "[I", .fieldLink RX10 22 "ParametricFlowModel" "slopeOf" "[I", .fieldLink RX10 16 "ParametricFlowModel" "capacityOf" "[I", .fieldLink RX10 118 "ParametricFlowModel" "nodes" "I", .fieldLink RX10 62 "ParametricFlowModel" "potentialOf" "[J", .fieldLink RX10 25 "ParametricFlowModel" "supplyOf" "[I", .fieldLink RX10 28 "ParametricFlowModel" "supplySlope" "[I", .methodLink RX10 168 yX10_reduced, .instanceMethod yX10_reduced, .selects RX10 yX10_reduced yX10_reduced, .initialized RX10, .code yX10_reduced cX10_reduced 2 (some .long), .fieldLink RX10 31 "ParametricFlowModel" "scaledCost" "[J", .fieldLink RX10 47 "ParametricFlowModel" "tailOf" "[I", .fieldLink RX10 44 "ParametricFlowModel" "headOf" "[I"] ++ wsX100)
def wsX10_insertPoint : List Cond := .code yX10_insertPoint cX10_insertPoint 7 none :: ([.fieldLink RX10 278 "ParametricFlowModel" "points" "I", .fieldLink RX10 84 "ParametricFlowModel" "pointOver" "[J", .fieldLink RX10 87 "ParametricFlowModel" "pointUnder" "[J", .fieldLink RX10 90 "ParametricFlowModel" "lineConstant" "[J", .fieldLink RX10 93 "ParametricFlowModel" "lineSlope" "[J", .fieldLink RX10 96 "ParametricFlowModel" "isKnown" "[Z", .fieldLink RX10 99 "ParametricFlowModel" "stretchSlope" "[J", .fieldLink RX10 272 "ParametricFlowModel" "lineFrom" "J", .fieldLink RX10 275 "ParametricFlowModel" "lineRise" "J"] ++ wsX100)
def wsX10_know : List Cond := .code yX10_know cX10_know 4 none :: ([.fieldLink RX10 96 "ParametricFlowModel" "isKnown" "[Z", .fieldLink RX10 99 "ParametricFlowModel" "stretchSlope" "[J"] ++ wsX100)
def wsX10_split_r1 : List Cond := [Cond.fieldLink RX10 93 "ParametricFlowModel" "lineSlope" "[J", Cond.fieldLink RX10 90 "ParametricFlowModel" "lineConstant" "[J", Cond.fieldLink RX10 87 "ParametricFlowModel" "pointUnder" "[J", Cond.fieldLink RX10 84 "ParametricFlowModel" "pointOver" "[J", Cond.methodLink RX10 281 yX10_know, Cond.instanceMethod yX10_know, Cond.selects RX10 yX10_know yX10_know, Cond.initialized RX10, Cond.code yX10_know cX10_know 4 none, Cond.fieldLink RX10 96 "ParametricFlowModel" "isKnown" "[Z", Cond.fieldLink RX10 99 "ParametricFlowModel" "stretchSlope" "[J", Cond.methodLink RX10 235 yX10_part, Cond.static yX10_part, Cond.code yX10_part cX10_part 7 (some .long), Cond.constantLong RX10 116 (-1), Cond.methodLink RX10 112 yX10_common, Cond.static yX10_common, Cond.code yX10_common cX10_common 10 (some .long), Cond.methodLink RX10 108 yX10_size, Cond.static yX10_size, Cond.code yX10_size cX10_size 2 (some .long), Cond.methodLink RX10 214 yX10_tryAt, Cond.instanceMethod yX10_tryAt, Cond.selects RX10 yX10_tryAt yX10_tryAt]
def wsX10_split_r2 : List Cond := [Cond.code yX10_tryAt cX10_tryAt 6 (some .int), Cond.fieldLink RX10 118 "ParametricFlowModel" "nodes" "I", Cond.fieldLink RX10 38 "ParametricFlowModel" "flowOn" "[J", Cond.methodLink RX10 193 yX10_isBalanced, Cond.instanceMethod yX10_isBalanced, Cond.selects RX10 yX10_isBalanced yX10_isBalanced, Cond.code yX10_isBalanced cX10_isBalanced 8 (some .boolean), Cond.fieldLink RX10 125 "ParametricFlowModel" "mode" "I", Cond.fieldLink RX10 25 "ParametricFlowModel" "supplyOf" "[I", Cond.fieldLink RX10 28 "ParametricFlowModel" "supplySlope" "[I", Cond.methodLink RX10 197 yX10_lay, Cond.instanceMethod yX10_lay, Cond.selects RX10 yX10_lay yX10_lay, Cond.code yX10_lay cX10_lay 9 none, Cond.fieldLink RX10 156 "ParametricFlowModel" "unit" "J", Cond.fieldLink RX10 160 "ParametricFlowModel" "pivots" "I", Cond.fieldLink RX10 122 "ParametricFlowModel" "arcs" "I", Cond.fieldLink RX10 47 "ParametricFlowModel" "tailOf" "[I", Cond.fieldLink RX10 7 "ParametricFlowModel" "fromOf" "[I", Cond.fieldLink RX10 44 "ParametricFlowModel" "headOf" "[I", Cond.fieldLink RX10 13 "ParametricFlowModel" "toOf" "[I", Cond.fieldLink RX10 31 "ParametricFlowModel" "scaledCost" "[J", Cond.fieldLink RX10 19 "ParametricFlowModel" "costOf" "[I", Cond.fieldLink RX10 22 "ParametricFlowModel" "slopeOf" "[I"]
def wsX10_split_r3 : List Cond := [Cond.fieldLink RX10 35 "ParametricFlowModel" "scaledCapacity" "[J", Cond.fieldLink RX10 16 "ParametricFlowModel" "capacityOf" "[I", Cond.fieldLink RX10 41 "ParametricFlowModel" "boundOf" "[I", Cond.fieldLink RX10 50 "ParametricFlowModel" "supplyNow" "[J", Cond.constantLong RX10 163 (4000000000000000000), Cond.fieldLink RX10 53 "ParametricFlowModel" "parentOf" "[I", Cond.fieldLink RX10 56 "ParametricFlowModel" "arcUp" "[I", Cond.methodLink RX10 165 yX10_layDepths, Cond.instanceMethod yX10_layDepths, Cond.selects RX10 yX10_layDepths yX10_layDepths, Cond.code yX10_layDepths cX10_layDepths 6 none, Cond.fieldLink RX10 59 "ParametricFlowModel" "depthOf" "[I", Cond.fieldLink RX10 62 "ParametricFlowModel" "potentialOf" "[J", Cond.methodLink RX10 201 yX10_entering, Cond.instanceMethod yX10_entering, Cond.selects RX10 yX10_entering yX10_entering, Cond.code yX10_entering cX10_entering 6 (some .int), Cond.methodLink RX10 168 yX10_reduced, Cond.instanceMethod yX10_reduced, Cond.selects RX10 yX10_reduced yX10_reduced, Cond.code yX10_reduced cX10_reduced 2 (some .long), Cond.methodLink RX10 205 yX10_pivotBy, Cond.instanceMethod yX10_pivotBy, Cond.selects RX10 yX10_pivotBy yX10_pivotBy]
def wsX10_split_r4 : List Cond := [Cond.code yX10_pivotBy cX10_pivotBy 8 none, Cond.fieldLink RX10 176 "ParametricFlowModel" "cycleLong" "I", Cond.fieldLink RX10 71 "ParametricFlowModel" "cycleArc" "[I", Cond.fieldLink RX10 74 "ParametricFlowModel" "cycleAlong" "[Z", Cond.fieldLink RX10 65 "ParametricFlowModel" "entered" "[I", Cond.fieldLink RX10 68 "ParametricFlowModel" "left" "[I", Cond.methodLink RX10 179 yX10_layCycle, Cond.instanceMethod yX10_layCycle, Cond.selects RX10 yX10_layCycle yX10_layCycle, Cond.code yX10_layCycle cX10_layCycle 7 none, Cond.methodLink RX10 172 yX10_apexOf, Cond.instanceMethod yX10_apexOf, Cond.selects RX10 yX10_apexOf yX10_apexOf, Cond.code yX10_apexOf cX10_apexOf 5 (some .int), Cond.methodLink RX10 182 yX10_room, Cond.instanceMethod yX10_room, Cond.selects RX10 yX10_room yX10_room, Cond.code yX10_room cX10_room 3 (some .long), Cond.methodLink RX10 185 yX10_isBelow, Cond.instanceMethod yX10_isBelow, Cond.selects RX10 yX10_isBelow yX10_isBelow, Cond.code yX10_isBelow cX10_isBelow 4 (some .boolean), Cond.methodLink RX10 189 yX10_hang, Cond.instanceMethod yX10_hang]
def wsX10_split_r5 : List Cond := [Cond.selects RX10 yX10_hang yX10_hang, Cond.code yX10_hang cX10_hang 11 none, Cond.methodLink RX10 232 yX10_valueNow, Cond.instanceMethod yX10_valueNow, Cond.selects RX10 yX10_valueNow yX10_valueNow, Cond.code yX10_valueNow cX10_valueNow 4 (some .long), Cond.methodLink RX10 285 yX10_layLine, Cond.instanceMethod yX10_layLine, Cond.selects RX10 yX10_layLine yX10_layLine, Cond.code yX10_layLine cX10_layLine 4 none, Cond.fieldLink RX10 272 "ParametricFlowModel" "lineFrom" "J", Cond.fieldLink RX10 275 "ParametricFlowModel" "lineRise" "J", Cond.methodLink RX10 288 yX10_insertPoint, Cond.instanceMethod yX10_insertPoint, Cond.selects RX10 yX10_insertPoint yX10_insertPoint, Cond.code yX10_insertPoint cX10_insertPoint 7 none, Cond.fieldLink RX10 278 "ParametricFlowModel" "points" "I"]
def wsX10_split : List Cond := .code yX10_split cX10_split 17 none :: ((wsX10_split_r1 ++ (wsX10_split_r2 ++ (wsX10_split_r3 ++ (wsX10_split_r4 ++ wsX10_split_r5)))) ++ wsX100)
def wsX10_findFunction_r1 : List Cond := [Cond.fieldLink RX10 278 "ParametricFlowModel" "points" "I", Cond.fieldLink RX10 96 "ParametricFlowModel" "isKnown" "[Z", Cond.methodLink RX10 193 yX10_isBalanced, Cond.instanceMethod yX10_isBalanced, Cond.selects RX10 yX10_isBalanced yX10_isBalanced, Cond.initialized RX10, Cond.code yX10_isBalanced cX10_isBalanced 8 (some .boolean), Cond.fieldLink RX10 118 "ParametricFlowModel" "nodes" "I", Cond.fieldLink RX10 125 "ParametricFlowModel" "mode" "I", Cond.fieldLink RX10 25 "ParametricFlowModel" "supplyOf" "[I", Cond.fieldLink RX10 28 "ParametricFlowModel" "supplySlope" "[I", Cond.methodLink RX10 214 yX10_tryAt, Cond.instanceMethod yX10_tryAt, Cond.selects RX10 yX10_tryAt yX10_tryAt, Cond.code yX10_tryAt cX10_tryAt 6 (some .int), Cond.fieldLink RX10 38 "ParametricFlowModel" "flowOn" "[J", Cond.methodLink RX10 197 yX10_lay, Cond.instanceMethod yX10_lay, Cond.selects RX10 yX10_lay yX10_lay, Cond.code yX10_lay cX10_lay 9 none, Cond.fieldLink RX10 156 "ParametricFlowModel" "unit" "J", Cond.fieldLink RX10 160 "ParametricFlowModel" "pivots" "I", Cond.fieldLink RX10 122 "ParametricFlowModel" "arcs" "I", Cond.fieldLink RX10 47 "ParametricFlowModel" "tailOf" "[I"]
def wsX10_findFunction_r2 : List Cond := [Cond.fieldLink RX10 7 "ParametricFlowModel" "fromOf" "[I", Cond.fieldLink RX10 44 "ParametricFlowModel" "headOf" "[I", Cond.fieldLink RX10 13 "ParametricFlowModel" "toOf" "[I", Cond.fieldLink RX10 31 "ParametricFlowModel" "scaledCost" "[J", Cond.fieldLink RX10 19 "ParametricFlowModel" "costOf" "[I", Cond.fieldLink RX10 22 "ParametricFlowModel" "slopeOf" "[I", Cond.fieldLink RX10 35 "ParametricFlowModel" "scaledCapacity" "[J", Cond.fieldLink RX10 16 "ParametricFlowModel" "capacityOf" "[I", Cond.fieldLink RX10 41 "ParametricFlowModel" "boundOf" "[I", Cond.fieldLink RX10 50 "ParametricFlowModel" "supplyNow" "[J", Cond.constantLong RX10 163 (4000000000000000000), Cond.fieldLink RX10 53 "ParametricFlowModel" "parentOf" "[I", Cond.fieldLink RX10 56 "ParametricFlowModel" "arcUp" "[I", Cond.methodLink RX10 108 yX10_size, Cond.static yX10_size, Cond.code yX10_size cX10_size 2 (some .long), Cond.methodLink RX10 165 yX10_layDepths, Cond.instanceMethod yX10_layDepths, Cond.selects RX10 yX10_layDepths yX10_layDepths, Cond.code yX10_layDepths cX10_layDepths 6 none, Cond.fieldLink RX10 59 "ParametricFlowModel" "depthOf" "[I", Cond.fieldLink RX10 62 "ParametricFlowModel" "potentialOf" "[J", Cond.methodLink RX10 201 yX10_entering, Cond.instanceMethod yX10_entering]
def wsX10_findFunction_r3 : List Cond := [Cond.selects RX10 yX10_entering yX10_entering, Cond.code yX10_entering cX10_entering 6 (some .int), Cond.methodLink RX10 168 yX10_reduced, Cond.instanceMethod yX10_reduced, Cond.selects RX10 yX10_reduced yX10_reduced, Cond.code yX10_reduced cX10_reduced 2 (some .long), Cond.methodLink RX10 205 yX10_pivotBy, Cond.instanceMethod yX10_pivotBy, Cond.selects RX10 yX10_pivotBy yX10_pivotBy, Cond.code yX10_pivotBy cX10_pivotBy 8 none, Cond.fieldLink RX10 176 "ParametricFlowModel" "cycleLong" "I", Cond.fieldLink RX10 71 "ParametricFlowModel" "cycleArc" "[I", Cond.fieldLink RX10 74 "ParametricFlowModel" "cycleAlong" "[Z", Cond.fieldLink RX10 65 "ParametricFlowModel" "entered" "[I", Cond.fieldLink RX10 68 "ParametricFlowModel" "left" "[I", Cond.methodLink RX10 179 yX10_layCycle, Cond.instanceMethod yX10_layCycle, Cond.selects RX10 yX10_layCycle yX10_layCycle, Cond.code yX10_layCycle cX10_layCycle 7 none, Cond.methodLink RX10 172 yX10_apexOf, Cond.instanceMethod yX10_apexOf, Cond.selects RX10 yX10_apexOf yX10_apexOf, Cond.code yX10_apexOf cX10_apexOf 5 (some .int), Cond.methodLink RX10 182 yX10_room]
def wsX10_findFunction_r4 : List Cond := [Cond.instanceMethod yX10_room, Cond.selects RX10 yX10_room yX10_room, Cond.code yX10_room cX10_room 3 (some .long), Cond.methodLink RX10 185 yX10_isBelow, Cond.instanceMethod yX10_isBelow, Cond.selects RX10 yX10_isBelow yX10_isBelow, Cond.code yX10_isBelow cX10_isBelow 4 (some .boolean), Cond.methodLink RX10 189 yX10_hang, Cond.instanceMethod yX10_hang, Cond.selects RX10 yX10_hang yX10_hang, Cond.code yX10_hang cX10_hang 11 none, Cond.methodLink RX10 285 yX10_layLine, Cond.instanceMethod yX10_layLine, Cond.selects RX10 yX10_layLine yX10_layLine, Cond.code yX10_layLine cX10_layLine 4 none, Cond.fieldLink RX10 272 "ParametricFlowModel" "lineFrom" "J", Cond.fieldLink RX10 275 "ParametricFlowModel" "lineRise" "J", Cond.methodLink RX10 288 yX10_insertPoint, Cond.instanceMethod yX10_insertPoint, Cond.selects RX10 yX10_insertPoint yX10_insertPoint, Cond.code yX10_insertPoint cX10_insertPoint 7 none, Cond.fieldLink RX10 84 "ParametricFlowModel" "pointOver" "[J", Cond.fieldLink RX10 87 "ParametricFlowModel" "pointUnder" "[J", Cond.fieldLink RX10 90 "ParametricFlowModel" "lineConstant" "[J"]
def wsX10_findFunction_r5 : List Cond := [Cond.fieldLink RX10 93 "ParametricFlowModel" "lineSlope" "[J", Cond.fieldLink RX10 99 "ParametricFlowModel" "stretchSlope" "[J", Cond.methodLink RX10 292 yX10_split, Cond.instanceMethod yX10_split, Cond.selects RX10 yX10_split yX10_split, Cond.code yX10_split cX10_split 17 none, Cond.methodLink RX10 281 yX10_know, Cond.instanceMethod yX10_know, Cond.selects RX10 yX10_know yX10_know, Cond.code yX10_know cX10_know 4 none, Cond.methodLink RX10 235 yX10_part, Cond.static yX10_part, Cond.code yX10_part cX10_part 7 (some .long), Cond.constantLong RX10 116 (-1), Cond.methodLink RX10 112 yX10_common, Cond.static yX10_common, Cond.code yX10_common cX10_common 10 (some .long), Cond.methodLink RX10 232 yX10_valueNow, Cond.instanceMethod yX10_valueNow, Cond.selects RX10 yX10_valueNow yX10_valueNow, Cond.code yX10_valueNow cX10_valueNow 4 (some .long)]
def wsX10_findFunction : List Cond := .code yX10_findFunction cX10_findFunction 4 (some .int) :: ((wsX10_findFunction_r1 ++ (wsX10_findFunction_r2 ++ (wsX10_findFunction_r3 ++ (wsX10_findFunction_r4 ++ wsX10_findFunction_r5)))) ++ wsX100)
def wsX10_isBend : List Cond := .code yX10_isBend cX10_isBend 2 (some .boolean) :: ([.fieldLink RX10 278 "ParametricFlowModel" "points" "I", .fieldLink RX10 99 "ParametricFlowModel" "stretchSlope" "[J"] ++ wsX100)
def wsX10_isSpan : List Cond := .code yX10_isSpan cX10_isSpan 2 (some .boolean) :: ([.methodLink RX10 132 yX10_in, .static yX10_in, .initialized RX10, .code yX10_in cX10_in 3 (some .boolean)])
def wsX10_value_r1 : List Cond := [Cond.fieldLink RX10 156 "ParametricFlowModel" "unit" "J", Cond.methodLink RX10 218 yX10_isParameter, Cond.static yX10_isParameter, Cond.initialized RX10, Cond.code yX10_isParameter cX10_isParameter 2 (some .boolean), Cond.methodLink RX10 132 yX10_in, Cond.static yX10_in, Cond.code yX10_in cX10_in 3 (some .boolean), Cond.methodLink RX10 214 yX10_tryAt, Cond.instanceMethod yX10_tryAt, Cond.selects RX10 yX10_tryAt yX10_tryAt, Cond.code yX10_tryAt cX10_tryAt 6 (some .int), Cond.fieldLink RX10 118 "ParametricFlowModel" "nodes" "I", Cond.fieldLink RX10 38 "ParametricFlowModel" "flowOn" "[J", Cond.methodLink RX10 193 yX10_isBalanced, Cond.instanceMethod yX10_isBalanced, Cond.selects RX10 yX10_isBalanced yX10_isBalanced, Cond.code yX10_isBalanced cX10_isBalanced 8 (some .boolean), Cond.fieldLink RX10 125 "ParametricFlowModel" "mode" "I", Cond.fieldLink RX10 25 "ParametricFlowModel" "supplyOf" "[I", Cond.fieldLink RX10 28 "ParametricFlowModel" "supplySlope" "[I", Cond.methodLink RX10 197 yX10_lay, Cond.instanceMethod yX10_lay, Cond.selects RX10 yX10_lay yX10_lay]
def wsX10_value_r2 : List Cond := [Cond.code yX10_lay cX10_lay 9 none, Cond.fieldLink RX10 160 "ParametricFlowModel" "pivots" "I", Cond.fieldLink RX10 122 "ParametricFlowModel" "arcs" "I", Cond.fieldLink RX10 47 "ParametricFlowModel" "tailOf" "[I", Cond.fieldLink RX10 7 "ParametricFlowModel" "fromOf" "[I", Cond.fieldLink RX10 44 "ParametricFlowModel" "headOf" "[I", Cond.fieldLink RX10 13 "ParametricFlowModel" "toOf" "[I", Cond.fieldLink RX10 31 "ParametricFlowModel" "scaledCost" "[J", Cond.fieldLink RX10 19 "ParametricFlowModel" "costOf" "[I", Cond.fieldLink RX10 22 "ParametricFlowModel" "slopeOf" "[I", Cond.fieldLink RX10 35 "ParametricFlowModel" "scaledCapacity" "[J", Cond.fieldLink RX10 16 "ParametricFlowModel" "capacityOf" "[I", Cond.fieldLink RX10 41 "ParametricFlowModel" "boundOf" "[I", Cond.fieldLink RX10 50 "ParametricFlowModel" "supplyNow" "[J", Cond.constantLong RX10 163 (4000000000000000000), Cond.fieldLink RX10 53 "ParametricFlowModel" "parentOf" "[I", Cond.fieldLink RX10 56 "ParametricFlowModel" "arcUp" "[I", Cond.methodLink RX10 108 yX10_size, Cond.static yX10_size, Cond.code yX10_size cX10_size 2 (some .long), Cond.methodLink RX10 165 yX10_layDepths, Cond.instanceMethod yX10_layDepths, Cond.selects RX10 yX10_layDepths yX10_layDepths, Cond.code yX10_layDepths cX10_layDepths 6 none]
def wsX10_value_r3 : List Cond := [Cond.fieldLink RX10 59 "ParametricFlowModel" "depthOf" "[I", Cond.fieldLink RX10 62 "ParametricFlowModel" "potentialOf" "[J", Cond.methodLink RX10 201 yX10_entering, Cond.instanceMethod yX10_entering, Cond.selects RX10 yX10_entering yX10_entering, Cond.code yX10_entering cX10_entering 6 (some .int), Cond.methodLink RX10 168 yX10_reduced, Cond.instanceMethod yX10_reduced, Cond.selects RX10 yX10_reduced yX10_reduced, Cond.code yX10_reduced cX10_reduced 2 (some .long), Cond.methodLink RX10 205 yX10_pivotBy, Cond.instanceMethod yX10_pivotBy, Cond.selects RX10 yX10_pivotBy yX10_pivotBy, Cond.code yX10_pivotBy cX10_pivotBy 8 none, Cond.fieldLink RX10 176 "ParametricFlowModel" "cycleLong" "I", Cond.fieldLink RX10 71 "ParametricFlowModel" "cycleArc" "[I", Cond.fieldLink RX10 74 "ParametricFlowModel" "cycleAlong" "[Z", Cond.fieldLink RX10 65 "ParametricFlowModel" "entered" "[I", Cond.fieldLink RX10 68 "ParametricFlowModel" "left" "[I", Cond.methodLink RX10 179 yX10_layCycle, Cond.instanceMethod yX10_layCycle, Cond.selects RX10 yX10_layCycle yX10_layCycle, Cond.code yX10_layCycle cX10_layCycle 7 none, Cond.methodLink RX10 172 yX10_apexOf]
def wsX10_value_r4 : List Cond := [Cond.instanceMethod yX10_apexOf, Cond.selects RX10 yX10_apexOf yX10_apexOf, Cond.code yX10_apexOf cX10_apexOf 5 (some .int), Cond.methodLink RX10 182 yX10_room, Cond.instanceMethod yX10_room, Cond.selects RX10 yX10_room yX10_room, Cond.code yX10_room cX10_room 3 (some .long), Cond.methodLink RX10 185 yX10_isBelow, Cond.instanceMethod yX10_isBelow, Cond.selects RX10 yX10_isBelow yX10_isBelow, Cond.code yX10_isBelow cX10_isBelow 4 (some .boolean), Cond.methodLink RX10 189 yX10_hang, Cond.instanceMethod yX10_hang, Cond.selects RX10 yX10_hang yX10_hang, Cond.code yX10_hang cX10_hang 11 none, Cond.methodLink RX10 228 yX10_lost, Cond.static yX10_lost, Cond.code yX10_lost cX10_lost 0 (some .long), Cond.constantLong RX10 106 (-9223372036854775808), Cond.methodLink RX10 232 yX10_valueNow, Cond.instanceMethod yX10_valueNow, Cond.selects RX10 yX10_valueNow yX10_valueNow, Cond.code yX10_valueNow cX10_valueNow 4 (some .long), Cond.methodLink RX10 235 yX10_part]
def wsX10_value_r5 : List Cond := [Cond.static yX10_part, Cond.code yX10_part cX10_part 7 (some .long), Cond.constantLong RX10 116 (-1), Cond.methodLink RX10 112 yX10_common, Cond.static yX10_common, Cond.code yX10_common cX10_common 10 (some .long)]
def wsX10_value : List Cond := .code yX10_value cX10_value 4 (some .long) :: ((wsX10_value_r1 ++ (wsX10_value_r2 ++ (wsX10_value_r3 ++ (wsX10_value_r4 ++ wsX10_value_r5)))) ++ wsX100)
def wsX10_problem_r1 : List Cond := [Cond.methodLink RX10 218 yX10_isParameter, Cond.static yX10_isParameter, Cond.initialized RX10, Cond.code yX10_isParameter cX10_isParameter 2 (some .boolean), Cond.methodLink RX10 132 yX10_in, Cond.static yX10_in, Cond.code yX10_in cX10_in 3 (some .boolean), Cond.methodLink RX10 214 yX10_tryAt, Cond.instanceMethod yX10_tryAt, Cond.selects RX10 yX10_tryAt yX10_tryAt, Cond.code yX10_tryAt cX10_tryAt 6 (some .int), Cond.fieldLink RX10 118 "ParametricFlowModel" "nodes" "I", Cond.fieldLink RX10 38 "ParametricFlowModel" "flowOn" "[J", Cond.methodLink RX10 193 yX10_isBalanced, Cond.instanceMethod yX10_isBalanced, Cond.selects RX10 yX10_isBalanced yX10_isBalanced, Cond.code yX10_isBalanced cX10_isBalanced 8 (some .boolean), Cond.fieldLink RX10 125 "ParametricFlowModel" "mode" "I", Cond.fieldLink RX10 25 "ParametricFlowModel" "supplyOf" "[I", Cond.fieldLink RX10 28 "ParametricFlowModel" "supplySlope" "[I", Cond.methodLink RX10 197 yX10_lay, Cond.instanceMethod yX10_lay, Cond.selects RX10 yX10_lay yX10_lay, Cond.code yX10_lay cX10_lay 9 none]
def wsX10_problem_r2 : List Cond := [Cond.fieldLink RX10 156 "ParametricFlowModel" "unit" "J", Cond.fieldLink RX10 160 "ParametricFlowModel" "pivots" "I", Cond.fieldLink RX10 122 "ParametricFlowModel" "arcs" "I", Cond.fieldLink RX10 47 "ParametricFlowModel" "tailOf" "[I", Cond.fieldLink RX10 7 "ParametricFlowModel" "fromOf" "[I", Cond.fieldLink RX10 44 "ParametricFlowModel" "headOf" "[I", Cond.fieldLink RX10 13 "ParametricFlowModel" "toOf" "[I", Cond.fieldLink RX10 31 "ParametricFlowModel" "scaledCost" "[J", Cond.fieldLink RX10 19 "ParametricFlowModel" "costOf" "[I", Cond.fieldLink RX10 22 "ParametricFlowModel" "slopeOf" "[I", Cond.fieldLink RX10 35 "ParametricFlowModel" "scaledCapacity" "[J", Cond.fieldLink RX10 16 "ParametricFlowModel" "capacityOf" "[I", Cond.fieldLink RX10 41 "ParametricFlowModel" "boundOf" "[I", Cond.fieldLink RX10 50 "ParametricFlowModel" "supplyNow" "[J", Cond.constantLong RX10 163 (4000000000000000000), Cond.fieldLink RX10 53 "ParametricFlowModel" "parentOf" "[I", Cond.fieldLink RX10 56 "ParametricFlowModel" "arcUp" "[I", Cond.methodLink RX10 108 yX10_size, Cond.static yX10_size, Cond.code yX10_size cX10_size 2 (some .long), Cond.methodLink RX10 165 yX10_layDepths, Cond.instanceMethod yX10_layDepths, Cond.selects RX10 yX10_layDepths yX10_layDepths, Cond.code yX10_layDepths cX10_layDepths 6 none]
def wsX10_problem_r3 : List Cond := [Cond.fieldLink RX10 59 "ParametricFlowModel" "depthOf" "[I", Cond.fieldLink RX10 62 "ParametricFlowModel" "potentialOf" "[J", Cond.methodLink RX10 201 yX10_entering, Cond.instanceMethod yX10_entering, Cond.selects RX10 yX10_entering yX10_entering, Cond.code yX10_entering cX10_entering 6 (some .int), Cond.methodLink RX10 168 yX10_reduced, Cond.instanceMethod yX10_reduced, Cond.selects RX10 yX10_reduced yX10_reduced, Cond.code yX10_reduced cX10_reduced 2 (some .long), Cond.methodLink RX10 205 yX10_pivotBy, Cond.instanceMethod yX10_pivotBy, Cond.selects RX10 yX10_pivotBy yX10_pivotBy, Cond.code yX10_pivotBy cX10_pivotBy 8 none, Cond.fieldLink RX10 176 "ParametricFlowModel" "cycleLong" "I", Cond.fieldLink RX10 71 "ParametricFlowModel" "cycleArc" "[I", Cond.fieldLink RX10 74 "ParametricFlowModel" "cycleAlong" "[Z", Cond.fieldLink RX10 65 "ParametricFlowModel" "entered" "[I", Cond.fieldLink RX10 68 "ParametricFlowModel" "left" "[I", Cond.methodLink RX10 179 yX10_layCycle, Cond.instanceMethod yX10_layCycle, Cond.selects RX10 yX10_layCycle yX10_layCycle, Cond.code yX10_layCycle cX10_layCycle 7 none, Cond.methodLink RX10 172 yX10_apexOf]
def wsX10_problem_r4 : List Cond := [Cond.instanceMethod yX10_apexOf, Cond.selects RX10 yX10_apexOf yX10_apexOf, Cond.code yX10_apexOf cX10_apexOf 5 (some .int), Cond.methodLink RX10 182 yX10_room, Cond.instanceMethod yX10_room, Cond.selects RX10 yX10_room yX10_room, Cond.code yX10_room cX10_room 3 (some .long), Cond.methodLink RX10 185 yX10_isBelow, Cond.instanceMethod yX10_isBelow, Cond.selects RX10 yX10_isBelow yX10_isBelow, Cond.code yX10_isBelow cX10_isBelow 4 (some .boolean), Cond.methodLink RX10 189 yX10_hang, Cond.instanceMethod yX10_hang, Cond.selects RX10 yX10_hang yX10_hang, Cond.code yX10_hang cX10_hang 11 none]
def wsX10_problem : List Cond := .code yX10_problem cX10_problem 4 (some .int) :: ((wsX10_problem_r1 ++ (wsX10_problem_r2 ++ (wsX10_problem_r3 ++ wsX10_problem_r4))) ++ wsX100)
def wsX10_breakpoints_r1 : List Cond := [Cond.fieldLink RX10 278 "ParametricFlowModel" "points" "I", Cond.methodLink RX10 295 yX10_isSpan, Cond.static yX10_isSpan, Cond.initialized RX10, Cond.code yX10_isSpan cX10_isSpan 2 (some .boolean), Cond.methodLink RX10 132 yX10_in, Cond.static yX10_in, Cond.code yX10_in cX10_in 3 (some .boolean), Cond.methodLink RX10 298 yX10_findFunction, Cond.instanceMethod yX10_findFunction, Cond.selects RX10 yX10_findFunction yX10_findFunction, Cond.code yX10_findFunction cX10_findFunction 4 (some .int), Cond.fieldLink RX10 96 "ParametricFlowModel" "isKnown" "[Z", Cond.methodLink RX10 193 yX10_isBalanced, Cond.instanceMethod yX10_isBalanced, Cond.selects RX10 yX10_isBalanced yX10_isBalanced, Cond.code yX10_isBalanced cX10_isBalanced 8 (some .boolean), Cond.fieldLink RX10 118 "ParametricFlowModel" "nodes" "I", Cond.fieldLink RX10 125 "ParametricFlowModel" "mode" "I", Cond.fieldLink RX10 25 "ParametricFlowModel" "supplyOf" "[I", Cond.fieldLink RX10 28 "ParametricFlowModel" "supplySlope" "[I", Cond.methodLink RX10 214 yX10_tryAt, Cond.instanceMethod yX10_tryAt, Cond.selects RX10 yX10_tryAt yX10_tryAt]
def wsX10_breakpoints_r2 : List Cond := [Cond.code yX10_tryAt cX10_tryAt 6 (some .int), Cond.fieldLink RX10 38 "ParametricFlowModel" "flowOn" "[J", Cond.methodLink RX10 197 yX10_lay, Cond.instanceMethod yX10_lay, Cond.selects RX10 yX10_lay yX10_lay, Cond.code yX10_lay cX10_lay 9 none, Cond.fieldLink RX10 156 "ParametricFlowModel" "unit" "J", Cond.fieldLink RX10 160 "ParametricFlowModel" "pivots" "I", Cond.fieldLink RX10 122 "ParametricFlowModel" "arcs" "I", Cond.fieldLink RX10 47 "ParametricFlowModel" "tailOf" "[I", Cond.fieldLink RX10 7 "ParametricFlowModel" "fromOf" "[I", Cond.fieldLink RX10 44 "ParametricFlowModel" "headOf" "[I", Cond.fieldLink RX10 13 "ParametricFlowModel" "toOf" "[I", Cond.fieldLink RX10 31 "ParametricFlowModel" "scaledCost" "[J", Cond.fieldLink RX10 19 "ParametricFlowModel" "costOf" "[I", Cond.fieldLink RX10 22 "ParametricFlowModel" "slopeOf" "[I", Cond.fieldLink RX10 35 "ParametricFlowModel" "scaledCapacity" "[J", Cond.fieldLink RX10 16 "ParametricFlowModel" "capacityOf" "[I", Cond.fieldLink RX10 41 "ParametricFlowModel" "boundOf" "[I", Cond.fieldLink RX10 50 "ParametricFlowModel" "supplyNow" "[J", Cond.constantLong RX10 163 (4000000000000000000), Cond.fieldLink RX10 53 "ParametricFlowModel" "parentOf" "[I", Cond.fieldLink RX10 56 "ParametricFlowModel" "arcUp" "[I", Cond.methodLink RX10 108 yX10_size]
def wsX10_breakpoints_r3 : List Cond := [Cond.static yX10_size, Cond.code yX10_size cX10_size 2 (some .long), Cond.methodLink RX10 165 yX10_layDepths, Cond.instanceMethod yX10_layDepths, Cond.selects RX10 yX10_layDepths yX10_layDepths, Cond.code yX10_layDepths cX10_layDepths 6 none, Cond.fieldLink RX10 59 "ParametricFlowModel" "depthOf" "[I", Cond.fieldLink RX10 62 "ParametricFlowModel" "potentialOf" "[J", Cond.methodLink RX10 201 yX10_entering, Cond.instanceMethod yX10_entering, Cond.selects RX10 yX10_entering yX10_entering, Cond.code yX10_entering cX10_entering 6 (some .int), Cond.methodLink RX10 168 yX10_reduced, Cond.instanceMethod yX10_reduced, Cond.selects RX10 yX10_reduced yX10_reduced, Cond.code yX10_reduced cX10_reduced 2 (some .long), Cond.methodLink RX10 205 yX10_pivotBy, Cond.instanceMethod yX10_pivotBy, Cond.selects RX10 yX10_pivotBy yX10_pivotBy, Cond.code yX10_pivotBy cX10_pivotBy 8 none, Cond.fieldLink RX10 176 "ParametricFlowModel" "cycleLong" "I", Cond.fieldLink RX10 71 "ParametricFlowModel" "cycleArc" "[I", Cond.fieldLink RX10 74 "ParametricFlowModel" "cycleAlong" "[Z", Cond.fieldLink RX10 65 "ParametricFlowModel" "entered" "[I"]
def wsX10_breakpoints_r4 : List Cond := [Cond.fieldLink RX10 68 "ParametricFlowModel" "left" "[I", Cond.methodLink RX10 179 yX10_layCycle, Cond.instanceMethod yX10_layCycle, Cond.selects RX10 yX10_layCycle yX10_layCycle, Cond.code yX10_layCycle cX10_layCycle 7 none, Cond.methodLink RX10 172 yX10_apexOf, Cond.instanceMethod yX10_apexOf, Cond.selects RX10 yX10_apexOf yX10_apexOf, Cond.code yX10_apexOf cX10_apexOf 5 (some .int), Cond.methodLink RX10 182 yX10_room, Cond.instanceMethod yX10_room, Cond.selects RX10 yX10_room yX10_room, Cond.code yX10_room cX10_room 3 (some .long), Cond.methodLink RX10 185 yX10_isBelow, Cond.instanceMethod yX10_isBelow, Cond.selects RX10 yX10_isBelow yX10_isBelow, Cond.code yX10_isBelow cX10_isBelow 4 (some .boolean), Cond.methodLink RX10 189 yX10_hang, Cond.instanceMethod yX10_hang, Cond.selects RX10 yX10_hang yX10_hang, Cond.code yX10_hang cX10_hang 11 none, Cond.methodLink RX10 285 yX10_layLine, Cond.instanceMethod yX10_layLine, Cond.selects RX10 yX10_layLine yX10_layLine]
def wsX10_breakpoints_r5 : List Cond := [Cond.code yX10_layLine cX10_layLine 4 none, Cond.fieldLink RX10 272 "ParametricFlowModel" "lineFrom" "J", Cond.fieldLink RX10 275 "ParametricFlowModel" "lineRise" "J", Cond.methodLink RX10 288 yX10_insertPoint, Cond.instanceMethod yX10_insertPoint, Cond.selects RX10 yX10_insertPoint yX10_insertPoint, Cond.code yX10_insertPoint cX10_insertPoint 7 none, Cond.fieldLink RX10 84 "ParametricFlowModel" "pointOver" "[J", Cond.fieldLink RX10 87 "ParametricFlowModel" "pointUnder" "[J", Cond.fieldLink RX10 90 "ParametricFlowModel" "lineConstant" "[J", Cond.fieldLink RX10 93 "ParametricFlowModel" "lineSlope" "[J", Cond.fieldLink RX10 99 "ParametricFlowModel" "stretchSlope" "[J", Cond.methodLink RX10 292 yX10_split, Cond.instanceMethod yX10_split, Cond.selects RX10 yX10_split yX10_split, Cond.code yX10_split cX10_split 17 none, Cond.methodLink RX10 281 yX10_know, Cond.instanceMethod yX10_know, Cond.selects RX10 yX10_know yX10_know, Cond.code yX10_know cX10_know 4 none, Cond.methodLink RX10 235 yX10_part, Cond.static yX10_part, Cond.code yX10_part cX10_part 7 (some .long), Cond.constantLong RX10 116 (-1)]
def wsX10_breakpoints_r6 : List Cond := [Cond.methodLink RX10 112 yX10_common, Cond.static yX10_common, Cond.code yX10_common cX10_common 10 (some .long), Cond.methodLink RX10 232 yX10_valueNow, Cond.instanceMethod yX10_valueNow, Cond.selects RX10 yX10_valueNow yX10_valueNow, Cond.code yX10_valueNow cX10_valueNow 4 (some .long), Cond.methodLink RX10 301 yX10_isBend, Cond.instanceMethod yX10_isBend, Cond.selects RX10 yX10_isBend yX10_isBend, Cond.code yX10_isBend cX10_isBend 2 (some .boolean)]
def wsX10_breakpoints : List Cond := .code yX10_breakpoints cX10_breakpoints 6 (some .int) :: ((wsX10_breakpoints_r1 ++ (wsX10_breakpoints_r2 ++ (wsX10_breakpoints_r3 ++ (wsX10_breakpoints_r4 ++ (wsX10_breakpoints_r5 ++ wsX10_breakpoints_r6))))) ++ wsX100)
def wsX10_breakpoint_r1 : List Cond := [Cond.fieldLink RX10 278 "ParametricFlowModel" "points" "I", Cond.fieldLink RX10 87 "ParametricFlowModel" "pointUnder" "[J", Cond.fieldLink RX10 84 "ParametricFlowModel" "pointOver" "[J", Cond.methodLink RX10 295 yX10_isSpan, Cond.static yX10_isSpan, Cond.initialized RX10, Cond.code yX10_isSpan cX10_isSpan 2 (some .boolean), Cond.methodLink RX10 132 yX10_in, Cond.static yX10_in, Cond.code yX10_in cX10_in 3 (some .boolean), Cond.methodLink RX10 298 yX10_findFunction, Cond.instanceMethod yX10_findFunction, Cond.selects RX10 yX10_findFunction yX10_findFunction, Cond.code yX10_findFunction cX10_findFunction 4 (some .int), Cond.fieldLink RX10 96 "ParametricFlowModel" "isKnown" "[Z", Cond.methodLink RX10 193 yX10_isBalanced, Cond.instanceMethod yX10_isBalanced, Cond.selects RX10 yX10_isBalanced yX10_isBalanced, Cond.code yX10_isBalanced cX10_isBalanced 8 (some .boolean), Cond.fieldLink RX10 118 "ParametricFlowModel" "nodes" "I", Cond.fieldLink RX10 125 "ParametricFlowModel" "mode" "I", Cond.fieldLink RX10 25 "ParametricFlowModel" "supplyOf" "[I", Cond.fieldLink RX10 28 "ParametricFlowModel" "supplySlope" "[I", Cond.methodLink RX10 214 yX10_tryAt]
def wsX10_breakpoint_r2 : List Cond := [Cond.instanceMethod yX10_tryAt, Cond.selects RX10 yX10_tryAt yX10_tryAt, Cond.code yX10_tryAt cX10_tryAt 6 (some .int), Cond.fieldLink RX10 38 "ParametricFlowModel" "flowOn" "[J", Cond.methodLink RX10 197 yX10_lay, Cond.instanceMethod yX10_lay, Cond.selects RX10 yX10_lay yX10_lay, Cond.code yX10_lay cX10_lay 9 none, Cond.fieldLink RX10 156 "ParametricFlowModel" "unit" "J", Cond.fieldLink RX10 160 "ParametricFlowModel" "pivots" "I", Cond.fieldLink RX10 122 "ParametricFlowModel" "arcs" "I", Cond.fieldLink RX10 47 "ParametricFlowModel" "tailOf" "[I", Cond.fieldLink RX10 7 "ParametricFlowModel" "fromOf" "[I", Cond.fieldLink RX10 44 "ParametricFlowModel" "headOf" "[I", Cond.fieldLink RX10 13 "ParametricFlowModel" "toOf" "[I", Cond.fieldLink RX10 31 "ParametricFlowModel" "scaledCost" "[J", Cond.fieldLink RX10 19 "ParametricFlowModel" "costOf" "[I", Cond.fieldLink RX10 22 "ParametricFlowModel" "slopeOf" "[I", Cond.fieldLink RX10 35 "ParametricFlowModel" "scaledCapacity" "[J", Cond.fieldLink RX10 16 "ParametricFlowModel" "capacityOf" "[I", Cond.fieldLink RX10 41 "ParametricFlowModel" "boundOf" "[I", Cond.fieldLink RX10 50 "ParametricFlowModel" "supplyNow" "[J", Cond.constantLong RX10 163 (4000000000000000000), Cond.fieldLink RX10 53 "ParametricFlowModel" "parentOf" "[I"]
def wsX10_breakpoint_r3 : List Cond := [Cond.fieldLink RX10 56 "ParametricFlowModel" "arcUp" "[I", Cond.methodLink RX10 108 yX10_size, Cond.static yX10_size, Cond.code yX10_size cX10_size 2 (some .long), Cond.methodLink RX10 165 yX10_layDepths, Cond.instanceMethod yX10_layDepths, Cond.selects RX10 yX10_layDepths yX10_layDepths, Cond.code yX10_layDepths cX10_layDepths 6 none, Cond.fieldLink RX10 59 "ParametricFlowModel" "depthOf" "[I", Cond.fieldLink RX10 62 "ParametricFlowModel" "potentialOf" "[J", Cond.methodLink RX10 201 yX10_entering, Cond.instanceMethod yX10_entering, Cond.selects RX10 yX10_entering yX10_entering, Cond.code yX10_entering cX10_entering 6 (some .int), Cond.methodLink RX10 168 yX10_reduced, Cond.instanceMethod yX10_reduced, Cond.selects RX10 yX10_reduced yX10_reduced, Cond.code yX10_reduced cX10_reduced 2 (some .long), Cond.methodLink RX10 205 yX10_pivotBy, Cond.instanceMethod yX10_pivotBy, Cond.selects RX10 yX10_pivotBy yX10_pivotBy, Cond.code yX10_pivotBy cX10_pivotBy 8 none, Cond.fieldLink RX10 176 "ParametricFlowModel" "cycleLong" "I", Cond.fieldLink RX10 71 "ParametricFlowModel" "cycleArc" "[I"]
def wsX10_breakpoint_r4 : List Cond := [Cond.fieldLink RX10 74 "ParametricFlowModel" "cycleAlong" "[Z", Cond.fieldLink RX10 65 "ParametricFlowModel" "entered" "[I", Cond.fieldLink RX10 68 "ParametricFlowModel" "left" "[I", Cond.methodLink RX10 179 yX10_layCycle, Cond.instanceMethod yX10_layCycle, Cond.selects RX10 yX10_layCycle yX10_layCycle, Cond.code yX10_layCycle cX10_layCycle 7 none, Cond.methodLink RX10 172 yX10_apexOf, Cond.instanceMethod yX10_apexOf, Cond.selects RX10 yX10_apexOf yX10_apexOf, Cond.code yX10_apexOf cX10_apexOf 5 (some .int), Cond.methodLink RX10 182 yX10_room, Cond.instanceMethod yX10_room, Cond.selects RX10 yX10_room yX10_room, Cond.code yX10_room cX10_room 3 (some .long), Cond.methodLink RX10 185 yX10_isBelow, Cond.instanceMethod yX10_isBelow, Cond.selects RX10 yX10_isBelow yX10_isBelow, Cond.code yX10_isBelow cX10_isBelow 4 (some .boolean), Cond.methodLink RX10 189 yX10_hang, Cond.instanceMethod yX10_hang, Cond.selects RX10 yX10_hang yX10_hang, Cond.code yX10_hang cX10_hang 11 none, Cond.methodLink RX10 285 yX10_layLine]
def wsX10_breakpoint_r5 : List Cond := [Cond.instanceMethod yX10_layLine, Cond.selects RX10 yX10_layLine yX10_layLine, Cond.code yX10_layLine cX10_layLine 4 none, Cond.fieldLink RX10 272 "ParametricFlowModel" "lineFrom" "J", Cond.fieldLink RX10 275 "ParametricFlowModel" "lineRise" "J", Cond.methodLink RX10 288 yX10_insertPoint, Cond.instanceMethod yX10_insertPoint, Cond.selects RX10 yX10_insertPoint yX10_insertPoint, Cond.code yX10_insertPoint cX10_insertPoint 7 none, Cond.fieldLink RX10 90 "ParametricFlowModel" "lineConstant" "[J", Cond.fieldLink RX10 93 "ParametricFlowModel" "lineSlope" "[J", Cond.fieldLink RX10 99 "ParametricFlowModel" "stretchSlope" "[J", Cond.methodLink RX10 292 yX10_split, Cond.instanceMethod yX10_split, Cond.selects RX10 yX10_split yX10_split, Cond.code yX10_split cX10_split 17 none, Cond.methodLink RX10 281 yX10_know, Cond.instanceMethod yX10_know, Cond.selects RX10 yX10_know yX10_know, Cond.code yX10_know cX10_know 4 none, Cond.methodLink RX10 235 yX10_part, Cond.static yX10_part, Cond.code yX10_part cX10_part 7 (some .long), Cond.constantLong RX10 116 (-1)]
def wsX10_breakpoint_r6 : List Cond := [Cond.methodLink RX10 112 yX10_common, Cond.static yX10_common, Cond.code yX10_common cX10_common 10 (some .long), Cond.methodLink RX10 232 yX10_valueNow, Cond.instanceMethod yX10_valueNow, Cond.selects RX10 yX10_valueNow yX10_valueNow, Cond.code yX10_valueNow cX10_valueNow 4 (some .long), Cond.methodLink RX10 228 yX10_lost, Cond.static yX10_lost, Cond.code yX10_lost cX10_lost 0 (some .long), Cond.constantLong RX10 106 (-9223372036854775808), Cond.methodLink RX10 301 yX10_isBend, Cond.instanceMethod yX10_isBend, Cond.selects RX10 yX10_isBend yX10_isBend, Cond.code yX10_isBend cX10_isBend 2 (some .boolean)]
def wsX10_breakpoint : List Cond := .code yX10_breakpoint cX10_breakpoint 7 (some .long) :: ((wsX10_breakpoint_r1 ++ (wsX10_breakpoint_r2 ++ (wsX10_breakpoint_r3 ++ (wsX10_breakpoint_r4 ++ (wsX10_breakpoint_r5 ++ wsX10_breakpoint_r6))))) ++ wsX100)
def wsX10_slope_r1 : List Cond := [Cond.fieldLink RX10 278 "ParametricFlowModel" "points" "I", Cond.fieldLink RX10 99 "ParametricFlowModel" "stretchSlope" "[J", Cond.methodLink RX10 295 yX10_isSpan, Cond.static yX10_isSpan, Cond.initialized RX10, Cond.code yX10_isSpan cX10_isSpan 2 (some .boolean), Cond.methodLink RX10 132 yX10_in, Cond.static yX10_in, Cond.code yX10_in cX10_in 3 (some .boolean), Cond.methodLink RX10 298 yX10_findFunction, Cond.instanceMethod yX10_findFunction, Cond.selects RX10 yX10_findFunction yX10_findFunction, Cond.code yX10_findFunction cX10_findFunction 4 (some .int), Cond.fieldLink RX10 96 "ParametricFlowModel" "isKnown" "[Z", Cond.methodLink RX10 193 yX10_isBalanced, Cond.instanceMethod yX10_isBalanced, Cond.selects RX10 yX10_isBalanced yX10_isBalanced, Cond.code yX10_isBalanced cX10_isBalanced 8 (some .boolean), Cond.fieldLink RX10 118 "ParametricFlowModel" "nodes" "I", Cond.fieldLink RX10 125 "ParametricFlowModel" "mode" "I", Cond.fieldLink RX10 25 "ParametricFlowModel" "supplyOf" "[I", Cond.fieldLink RX10 28 "ParametricFlowModel" "supplySlope" "[I", Cond.methodLink RX10 214 yX10_tryAt, Cond.instanceMethod yX10_tryAt]
def wsX10_slope_r2 : List Cond := [Cond.selects RX10 yX10_tryAt yX10_tryAt, Cond.code yX10_tryAt cX10_tryAt 6 (some .int), Cond.fieldLink RX10 38 "ParametricFlowModel" "flowOn" "[J", Cond.methodLink RX10 197 yX10_lay, Cond.instanceMethod yX10_lay, Cond.selects RX10 yX10_lay yX10_lay, Cond.code yX10_lay cX10_lay 9 none, Cond.fieldLink RX10 156 "ParametricFlowModel" "unit" "J", Cond.fieldLink RX10 160 "ParametricFlowModel" "pivots" "I", Cond.fieldLink RX10 122 "ParametricFlowModel" "arcs" "I", Cond.fieldLink RX10 47 "ParametricFlowModel" "tailOf" "[I", Cond.fieldLink RX10 7 "ParametricFlowModel" "fromOf" "[I", Cond.fieldLink RX10 44 "ParametricFlowModel" "headOf" "[I", Cond.fieldLink RX10 13 "ParametricFlowModel" "toOf" "[I", Cond.fieldLink RX10 31 "ParametricFlowModel" "scaledCost" "[J", Cond.fieldLink RX10 19 "ParametricFlowModel" "costOf" "[I", Cond.fieldLink RX10 22 "ParametricFlowModel" "slopeOf" "[I", Cond.fieldLink RX10 35 "ParametricFlowModel" "scaledCapacity" "[J", Cond.fieldLink RX10 16 "ParametricFlowModel" "capacityOf" "[I", Cond.fieldLink RX10 41 "ParametricFlowModel" "boundOf" "[I", Cond.fieldLink RX10 50 "ParametricFlowModel" "supplyNow" "[J", Cond.constantLong RX10 163 (4000000000000000000), Cond.fieldLink RX10 53 "ParametricFlowModel" "parentOf" "[I", Cond.fieldLink RX10 56 "ParametricFlowModel" "arcUp" "[I"]
def wsX10_slope_r3 : List Cond := [Cond.methodLink RX10 108 yX10_size, Cond.static yX10_size, Cond.code yX10_size cX10_size 2 (some .long), Cond.methodLink RX10 165 yX10_layDepths, Cond.instanceMethod yX10_layDepths, Cond.selects RX10 yX10_layDepths yX10_layDepths, Cond.code yX10_layDepths cX10_layDepths 6 none, Cond.fieldLink RX10 59 "ParametricFlowModel" "depthOf" "[I", Cond.fieldLink RX10 62 "ParametricFlowModel" "potentialOf" "[J", Cond.methodLink RX10 201 yX10_entering, Cond.instanceMethod yX10_entering, Cond.selects RX10 yX10_entering yX10_entering, Cond.code yX10_entering cX10_entering 6 (some .int), Cond.methodLink RX10 168 yX10_reduced, Cond.instanceMethod yX10_reduced, Cond.selects RX10 yX10_reduced yX10_reduced, Cond.code yX10_reduced cX10_reduced 2 (some .long), Cond.methodLink RX10 205 yX10_pivotBy, Cond.instanceMethod yX10_pivotBy, Cond.selects RX10 yX10_pivotBy yX10_pivotBy, Cond.code yX10_pivotBy cX10_pivotBy 8 none, Cond.fieldLink RX10 176 "ParametricFlowModel" "cycleLong" "I", Cond.fieldLink RX10 71 "ParametricFlowModel" "cycleArc" "[I", Cond.fieldLink RX10 74 "ParametricFlowModel" "cycleAlong" "[Z"]
def wsX10_slope_r4 : List Cond := [Cond.fieldLink RX10 65 "ParametricFlowModel" "entered" "[I", Cond.fieldLink RX10 68 "ParametricFlowModel" "left" "[I", Cond.methodLink RX10 179 yX10_layCycle, Cond.instanceMethod yX10_layCycle, Cond.selects RX10 yX10_layCycle yX10_layCycle, Cond.code yX10_layCycle cX10_layCycle 7 none, Cond.methodLink RX10 172 yX10_apexOf, Cond.instanceMethod yX10_apexOf, Cond.selects RX10 yX10_apexOf yX10_apexOf, Cond.code yX10_apexOf cX10_apexOf 5 (some .int), Cond.methodLink RX10 182 yX10_room, Cond.instanceMethod yX10_room, Cond.selects RX10 yX10_room yX10_room, Cond.code yX10_room cX10_room 3 (some .long), Cond.methodLink RX10 185 yX10_isBelow, Cond.instanceMethod yX10_isBelow, Cond.selects RX10 yX10_isBelow yX10_isBelow, Cond.code yX10_isBelow cX10_isBelow 4 (some .boolean), Cond.methodLink RX10 189 yX10_hang, Cond.instanceMethod yX10_hang, Cond.selects RX10 yX10_hang yX10_hang, Cond.code yX10_hang cX10_hang 11 none, Cond.methodLink RX10 285 yX10_layLine, Cond.instanceMethod yX10_layLine]
def wsX10_slope_r5 : List Cond := [Cond.selects RX10 yX10_layLine yX10_layLine, Cond.code yX10_layLine cX10_layLine 4 none, Cond.fieldLink RX10 272 "ParametricFlowModel" "lineFrom" "J", Cond.fieldLink RX10 275 "ParametricFlowModel" "lineRise" "J", Cond.methodLink RX10 288 yX10_insertPoint, Cond.instanceMethod yX10_insertPoint, Cond.selects RX10 yX10_insertPoint yX10_insertPoint, Cond.code yX10_insertPoint cX10_insertPoint 7 none, Cond.fieldLink RX10 84 "ParametricFlowModel" "pointOver" "[J", Cond.fieldLink RX10 87 "ParametricFlowModel" "pointUnder" "[J", Cond.fieldLink RX10 90 "ParametricFlowModel" "lineConstant" "[J", Cond.fieldLink RX10 93 "ParametricFlowModel" "lineSlope" "[J", Cond.methodLink RX10 292 yX10_split, Cond.instanceMethod yX10_split, Cond.selects RX10 yX10_split yX10_split, Cond.code yX10_split cX10_split 17 none, Cond.methodLink RX10 281 yX10_know, Cond.instanceMethod yX10_know, Cond.selects RX10 yX10_know yX10_know, Cond.code yX10_know cX10_know 4 none, Cond.methodLink RX10 235 yX10_part, Cond.static yX10_part, Cond.code yX10_part cX10_part 7 (some .long), Cond.constantLong RX10 116 (-1)]
def wsX10_slope_r6 : List Cond := [Cond.methodLink RX10 112 yX10_common, Cond.static yX10_common, Cond.code yX10_common cX10_common 10 (some .long), Cond.methodLink RX10 232 yX10_valueNow, Cond.instanceMethod yX10_valueNow, Cond.selects RX10 yX10_valueNow yX10_valueNow, Cond.code yX10_valueNow cX10_valueNow 4 (some .long), Cond.methodLink RX10 228 yX10_lost, Cond.static yX10_lost, Cond.code yX10_lost cX10_lost 0 (some .long), Cond.constantLong RX10 106 (-9223372036854775808), Cond.methodLink RX10 301 yX10_isBend, Cond.instanceMethod yX10_isBend, Cond.selects RX10 yX10_isBend yX10_isBend, Cond.code yX10_isBend cX10_isBend 2 (some .boolean)]
def wsX10_slope : List Cond := .code yX10_slope cX10_slope 6 (some .long) :: ((wsX10_slope_r1 ++ (wsX10_slope_r2 ++ (wsX10_slope_r3 ++ (wsX10_slope_r4 ++ (wsX10_slope_r5 ++ wsX10_slope_r6))))) ++ wsX100)
end
section
set_option maxRecDepth 20000 in
theorem ggX0_load_X5_scaledSupply : GoodIn wsX0_load wsX5_scaledSupply := goodIn_r _ [36, 25, 37, 38, 45, 46, 47, 48, 49, 50, 51, 52, 53, 54] (by decide +kernel) (by decide +kernel)
set_option maxRecDepth 20000 in
theorem gX0_load_X5_scaledSupply : GoodIn wsX0_load (wsV RX0 64 RX5 yX5_scaledSupply wsX5_scaledSupply) := goodIn_app (goodIn_of _ (by decide +kernel)) ggX0_load_X5_scaledSupply
set_option maxRecDepth 20000 in
theorem ggX0_load_X0_loadArtificial : GoodIn wsX0_load wsX0_loadArtificial := goodIn_r _ [43, 5, 2, 7, 9, 44, 10, 11, 13, 14, 15, 16, 12, 55, 56, 57, 58, 59, 60, 61, 62] (by decide +kernel) (by decide +kernel)
set_option maxRecDepth 20000 in
theorem gX0_load_X0_loadArtificial : GoodIn wsX0_load (wsV RX0 67 RX0 yX0_loadArtificial wsX0_loadArtificial) := goodIn_app (goodIn_of _ (by decide +kernel)) ggX0_load_X0_loadArtificial
set_option maxRecDepth 20000 in
theorem ggX1_init_X4_init : GoodIn wsX1_init wsX4_init := goodIn_r _ [19, 20, 2, 3, 21, 22, 42, 43] (by decide +kernel) (by decide +kernel)
set_option maxRecDepth 20000 in
theorem gX1_init_X4_init_n11 : GoodIn wsX1_init (wsX4_init) := ggX1_init_X4_init
set_option maxRecDepth 20000 in
theorem ggX1_init_X3_init : GoodIn wsX1_init wsX3_init := goodIn_r _ [24, 25, 2, 3, 26, 54, 55, 56, 57] (by decide +kernel) (by decide +kernel)
set_option maxRecDepth 20000 in
theorem gX1_init_X3_init_n26 : GoodIn wsX1_init (wsX3_init) := ggX1_init_X3_init
set_option maxRecDepth 20000 in
theorem ggX1_init_Jx4a65c_init_da8c8 : GoodIn wsX1_init wsJx4a65c_init_da8c8 := goodIn_r _ [29, 30, 31, 32, 33, 34, 35, 36, 37, 38, 39, 40, 41, 2, 3, 58, 59, 60] (by decide +kernel) (by decide +kernel)
set_option maxRecDepth 20000 in
theorem gX1_init_Jx4a65c_init_da8c8 : GoodIn wsX1_init (wsJx4a65c_init_da8c8) := ggX1_init_Jx4a65c_init_da8c8
set_option maxRecDepth 20000 in
theorem ggX1_trace_X1_begin : GoodIn wsX1_trace wsX1_begin := goodIn_r _ [14, 2, 3, 5, 9, 15, 16, 17, 18, 19, 20, 21, 22, 23, 24, 25, 26, 27, 28, 29, 30, 31, 32, 33, 34, 35, 36, 37, 38, 39, 40, 41, 42, 43, 44, 45, 46, 47, 48, 49, 50, 51, 52, 53, 54, 55, 56, 57, 58, 59, 60, 61, 62, 63, 64, 65, 66, 67, 68, 69, 70, 71, 72, 73, 74, 75, 76, 77, 78, 79, 80, 81, 82, 83, 84, 85, 86, 87, 88, 89, 90, 91, 92, 93, 94, 95, 96, 97, 98, 99, 100, 101, 102, 103, 104, 105, 106, 107, 108, 109, 110, 111, 112, 113, 114, 115, 116, 117, 118, 119, 120, 121, 122, 123, 124, 125, 126, 127, 128, 129, 130, 131, 132, 133, 134, 135, 136, 137, 138, 139, 140, 141, 142, 143, 144, 145, 146, 147, 148, 149, 150, 151, 152, 153, 154, 155, 156, 157, 158, 159, 160, 161, 162, 163, 164, 165, 166, 167, 168, 169, 170, 171, 172, 173, 174, 175, 176, 177, 178, 179, 180, 181, 182, 183, 184, 185, 186, 187, 188, 189, 190, 191, 192, 193, 194, 195, 196, 197, 198, 199, 200, 201, 202, 203, 204, 205, 206, 207, 208, 209, 210, 211, 212, 213, 214, 215, 216, 217, 218, 219, 220, 221, 222, 223, 224, 225, 226, 227, 228, 13, 229, 7, 230, 231, 8, 232, 233, 234, 235, 236, 237, 238, 239, 240, 241, 242, 243, 244, 245, 246, 247, 248, 249, 250, 251, 252, 253, 254, 255, 256, 257, 258, 259, 260, 261, 262, 263, 264, 265, 266, 267, 268, 269, 270, 271, 272, 273, 274, 275, 276, 277, 278, 279, 280, 281, 282, 283, 284, 285, 286, 287, 288, 289, 290, 291, 292, 293, 294, 295, 296, 297, 298, 299, 300, 301, 302, 303, 304, 305, 330, 331, 332, 333, 334, 335, 336, 337, 338, 339, 340, 341, 342, 343, 344, 345, 346, 347, 348, 349, 350, 351, 352, 353, 354, 355, 356, 357, 358, 359, 360, 361, 362, 363, 364, 365, 366, 367, 368, 369, 370, 371, 372, 373, 374, 375, 376, 377, 378, 379, 380, 381, 382, 383, 384, 385, 386, 387, 388, 389, 390, 391] (by decide +kernel) (by decide +kernel)
set_option maxRecDepth 20000 in
theorem gX1_trace_X1_begin : GoodIn wsX1_trace (wsV RX1 52 RX1 yX1_begin wsX1_begin) := goodIn_app (goodIn_of _ (by decide +kernel)) ggX1_trace_X1_begin
set_option maxRecDepth 20000 in
theorem ggX1_trace_Jx4a65c_get_915e3 : GoodIn wsX1_trace wsJx4a65c_get_915e3 := goodIn_r _ [291, 237, 292, 293, 294, 295, 296, 297, 298, 299, 300, 301, 302, 235, 303, 249, 389, 390, 391] (by decide +kernel) (by decide +kernel)
set_option maxRecDepth 20000 in
theorem gX1_trace_Jx4a65c_get_915e3 : GoodIn wsX1_trace (wsV RX1 60 RJx4a65c yJx4a65c_get_915e3 wsJx4a65c_get_915e3) := goodIn_app (goodIn_of _ (by decide +kernel)) ggX1_trace_Jx4a65c_get_915e3
set_option maxRecDepth 20000 in
theorem ggX1_trace_X3_meets : GoodIn wsX1_trace wsX3_meets := goodIn_r _ [309, 41, 38, 39, 37, 340, 341, 342, 343] (by decide +kernel) (by decide +kernel)
set_option maxRecDepth 20000 in
theorem gX1_trace_X3_meets : GoodIn wsX1_trace (wsV RX1 64 RX3 yX3_meets wsX3_meets) := goodIn_app (goodIn_of _ (by decide +kernel)) ggX1_trace_X3_meets
set_option maxRecDepth 20000 in
theorem ggX1_begin_X5_isBalanced : GoodIn wsX1_begin wsX5_isBalanced := goodIn_r _ [13, 14, 15, 16, 17, 12, 18, 19, 20, 21, 313, 314, 315, 316, 317, 318, 319, 320, 321, 322] (by decide +kernel) (by decide +kernel)
set_option maxRecDepth 20000 in
theorem gX1_begin_X5_isBalanced : GoodIn wsX1_begin (wsV RX1 72 RX5 yX5_isBalanced wsX5_isBalanced) := goodIn_app (goodIn_of _ (by decide +kernel)) ggX1_begin_X5_isBalanced
set_option maxRecDepth 20000 in
theorem ggX1_begin_X3_touch : GoodIn wsX1_begin wsX3_touch := goodIn_r _ [26, 27, 28, 29, 30, 31, 32, 33, 34, 35, 36, 37, 38, 39, 40, 41, 42, 43, 44, 45, 46, 47, 48, 49, 50, 51, 52, 53, 10, 11, 12, 13, 14, 15, 16, 17, 18, 19, 20, 21, 54, 55, 56, 57, 58, 59, 60, 61, 62, 63, 64, 65, 66, 67, 68, 69, 70, 71, 72, 73, 74, 75, 76, 77, 78, 79, 80, 81, 82, 83, 84, 85, 86, 87, 88, 89, 90, 91, 92, 93, 94, 95, 96, 97, 98, 99, 100, 101, 102, 103, 104, 105, 106, 107, 108, 109, 110, 111, 112, 113, 114, 115, 116, 117, 118, 119, 120, 121, 122, 123, 124, 125, 126, 127, 128, 129, 130, 131, 132, 133, 134, 135, 136, 137, 138, 139, 140, 141, 142, 143, 144, 145, 146, 147, 148, 149, 150, 151, 152, 153, 154, 155, 156, 157, 158, 159, 160, 161, 162, 163, 164, 165, 166, 167, 168, 169, 170, 171, 172, 173, 174, 175, 176, 177, 178, 179, 180, 181, 182, 183, 184, 185, 186, 187, 188, 189, 190, 191, 192, 193, 194, 195, 196, 197, 198, 199, 200, 201, 202, 203, 204, 205, 206, 207, 208, 209, 210, 211, 212, 213, 214, 215, 309, 310, 311, 312, 323, 324, 325, 326, 327, 328, 329, 330, 331, 313, 314, 315, 316, 317, 318, 319, 320, 321, 322, 332, 333, 334, 335, 336, 337, 338, 339, 340, 341, 342, 343, 344, 345, 346, 347, 348, 349, 350, 351, 352, 353, 354, 355, 356, 357] (by decide +kernel) (by decide +kernel)
set_option maxRecDepth 20000 in
theorem gX1_begin_X3_touch : GoodIn wsX1_begin (wsV RX1 78 RX3 yX3_touch wsX3_touch) := goodIn_app (goodIn_of _ (by decide +kernel)) ggX1_begin_X3_touch
set_option maxRecDepth 20000 in
theorem ggX1_begin_X1_nextRight : GoodIn wsX1_begin wsX1_nextRight := goodIn_r _ [220, 3, 221, 222, 223, 25, 224, 225, 226, 227, 228, 229, 230, 231, 232, 233, 234, 235, 28, 236, 237, 238, 239, 240, 241, 242, 243, 244, 245, 246, 247, 248, 249, 250, 251, 252, 253, 254, 255, 256, 257, 73, 258, 259, 260, 261, 262, 263, 264, 265, 266, 267, 268, 269, 270, 172, 271, 272, 273, 274, 275, 276, 277, 278, 279, 280, 181, 182, 183, 184, 185, 186, 187, 281, 282, 283, 284, 285, 286, 287, 288, 289, 290, 291, 292, 293, 294, 295, 296, 299, 300, 301, 302, 303, 304, 305, 306, 307, 308, 309, 310, 311, 312, 358, 359, 360] (by decide +kernel) (by decide +kernel)
set_option maxRecDepth 20000 in
theorem gX1_begin_X1_nextRight : GoodIn wsX1_begin (wsV RX1 82 RX1 yX1_nextRight wsX1_nextRight) := goodIn_app (goodIn_of _ (by decide +kernel)) ggX1_begin_X1_nextRight
set_option maxRecDepth 20000 in
theorem ggX1_begin_X4_clear : GoodIn wsX1_begin wsX4_clear := goodIn_r _ [51, 52, 332, 333] (by decide +kernel) (by decide +kernel)
set_option maxRecDepth 20000 in
theorem gX1_begin_X4_clear : GoodIn wsX1_begin (wsV RX1 86 RX4 yX4_clear wsX4_clear) := goodIn_app (goodIn_of _ (by decide +kernel)) ggX1_begin_X4_clear
set_option maxRecDepth 20000 in
theorem ggX1_begin_X4_add : GoodIn wsX1_begin wsX4_add := goodIn_r _ [167, 52, 168, 169, 170, 171, 172, 173, 174, 175, 176, 177, 178, 179, 180, 181, 182, 73, 183, 184, 185, 186, 187, 332, 333] (by decide +kernel) (by decide +kernel)
set_option maxRecDepth 20000 in
theorem gX1_begin_X4_add : GoodIn wsX1_begin (wsV RX1 93 RX4 yX4_add wsX4_add) := goodIn_app (goodIn_of _ (by decide +kernel)) ggX1_begin_X4_add
set_option maxRecDepth 20000 in
theorem ggX1_nextRight_Jx4a65c_size_8abf5 : GoodIn wsX1_nextRight wsJx4a65c_size_8abf5 := goodIn_r _ [11, 12, 103, 104, 105] (by decide +kernel) (by decide +kernel)
set_option maxRecDepth 20000 in
theorem gX1_nextRight_Jx4a65c_size_8abf5 : GoodIn wsX1_nextRight (wsV RX1 97 RJx4a65c yJx4a65c_size_8abf5 wsJx4a65c_size_8abf5) := goodIn_app (goodIn_of _ (by decide +kernel)) ggX1_nextRight_Jx4a65c_size_8abf5
set_option maxRecDepth 20000 in
theorem ggX1_nextRight_X3_init : GoodIn wsX1_nextRight wsX3_init := goodIn_r _ [14, 15, 16, 17, 18, 99, 100, 101, 102] (by decide +kernel) (by decide +kernel)
set_option maxRecDepth 20000 in
theorem gX1_nextRight_X3_init_n26 : GoodIn wsX1_nextRight (wsX3_init) := ggX1_nextRight_X3_init
set_option maxRecDepth 20000 in
theorem ggX1_nextRight_Jx4a65c_add_9ea2d : GoodIn wsX1_nextRight wsJx4a65c_add_9ea2d := goodIn_r _ [22, 23, 24, 25, 12, 26, 27, 28, 10, 29, 30, 31, 32, 33, 34, 35, 36, 37, 38, 39, 40, 41, 42, 43, 44, 45, 46, 47, 48, 49, 50, 51, 52, 53, 54, 55, 56, 57, 58, 59, 60, 61, 62, 63, 64, 65, 66, 67, 68, 69, 70, 71, 72, 103, 104, 105] (by decide +kernel) (by decide +kernel)
set_option maxRecDepth 20000 in
theorem gX1_nextRight_Jx4a65c_add_9ea2d : GoodIn wsX1_nextRight (wsV RX1 101 RJx4a65c yJx4a65c_add_9ea2d wsJx4a65c_add_9ea2d) := goodIn_app (goodIn_of _ (by decide +kernel)) ggX1_nextRight_Jx4a65c_add_9ea2d
set_option maxRecDepth 20000 in
theorem ggX1_nextRight_Jx4a65c_get_915e3 : GoodIn wsX1_nextRight wsJx4a65c_get_915e3 := goodIn_r _ [76, 12, 77, 78, 79, 80, 81, 82, 83, 84, 85, 86, 87, 10, 88, 25, 103, 104, 105] (by decide +kernel) (by decide +kernel)
set_option maxRecDepth 20000 in
theorem gX1_nextRight_Jx4a65c_get_915e3 : GoodIn wsX1_nextRight (wsV RX1 60 RJx4a65c yJx4a65c_get_915e3 wsJx4a65c_get_915e3) := goodIn_app (goodIn_of _ (by decide +kernel)) ggX1_nextRight_Jx4a65c_get_915e3
set_option maxRecDepth 20000 in
theorem ggX3_touch_X7_run : GoodIn wsX3_touch wsX7_run := goodIn_r _ [10, 11, 12, 13, 14, 15, 16, 17, 18, 19, 20, 21, 22, 23, 24, 25, 26, 27, 28, 29, 30, 31, 32, 33, 34, 35, 36, 37, 38, 39, 40, 41, 42, 43, 44, 45, 46, 47, 48, 49, 50, 51, 52, 53, 54, 55, 56, 57, 58, 59, 60, 61, 62, 63, 64, 65, 66, 67, 68, 69, 70, 71, 72, 73, 74, 75, 76, 77, 78, 79, 80, 81, 82, 83, 84, 85, 86, 87, 88, 89, 90, 91, 92, 93, 94, 95, 96, 97, 98, 99, 100, 9, 101, 102, 103, 104, 105, 106, 107, 108, 109, 110, 111, 112, 113, 114, 115, 116, 117, 118, 119, 120, 121, 122, 123, 124, 125, 126, 127, 128, 129, 130, 131, 132, 133, 134, 135, 136, 137, 138, 139, 140, 141, 142, 143, 144, 145, 146, 147, 148, 149, 150, 151, 152, 153, 154, 155, 156, 157, 158, 159, 160, 161, 162, 163, 164, 165, 166, 167, 168, 169, 170, 171, 172, 173, 174, 175, 176, 177, 178, 179, 180, 181, 182, 183, 184, 185, 186, 187, 188, 189, 215, 216, 217, 218, 219, 220, 221, 222, 223, 224, 206, 207, 208, 209, 210, 211, 212, 213, 214, 225, 226, 227, 228, 229, 230, 231, 232, 233, 234, 235, 236, 237, 238, 239, 240, 241, 242, 243, 244, 245, 246, 247, 248, 249, 250] (by decide +kernel) (by decide +kernel)
set_option maxRecDepth 20000 in
theorem gX3_touch_X7_run : GoodIn wsX3_touch (wsV RX3 18 RX7 yX7_run wsX7_run) := goodIn_app (goodIn_of _ (by decide +kernel)) ggX3_touch_X7_run
set_option maxRecDepth 20000 in
theorem ggX3_touch_X7_rate : GoodIn wsX3_touch wsX7_rate := goodIn_r _ [193, 12, 17, 102, 194, 195, 196, 197, 18, 109, 206, 207, 208, 209, 210, 211, 212, 213, 214, 227, 228, 229, 230, 231, 232, 233, 234, 215, 216, 217, 218, 219, 220, 221, 222, 223, 224, 235, 236, 237, 238, 239, 240, 241, 242] (by decide +kernel) (by decide +kernel)
set_option maxRecDepth 20000 in
theorem gX3_touch_X7_rate : GoodIn wsX3_touch (wsV RX3 24 RX7 yX7_rate wsX7_rate) := goodIn_app (goodIn_of _ (by decide +kernel)) ggX3_touch_X7_rate
set_option maxRecDepth 20000 in
theorem ggX3_touch_X0_totalCost : GoodIn wsX3_touch wsX0_totalCost := goodIn_r _ [201, 48, 55, 54, 227, 228, 229, 230, 231, 232, 233, 234] (by decide +kernel) (by decide +kernel)
set_option maxRecDepth 20000 in
theorem gX3_touch_X0_totalCost : GoodIn wsX3_touch (wsV RX3 35 RX0 yX0_totalCost wsX0_totalCost) := goodIn_app (goodIn_of _ (by decide +kernel)) ggX3_touch_X0_totalCost
set_option maxRecDepth 20000 in
theorem ggX5_clear_J7_fill_53178 : GoodIn wsX5_clear wsJ7_fill_53178 := goodIn_r _ [9] (by decide +kernel) (by decide +kernel)
set_option maxRecDepth 20000 in
theorem gX5_clear_J7_fill_53178 : GoodIn wsX5_clear (va_wsS RX5 43 yJ7_fill_53178 wsJ7_fill_53178) := goodIn_app (goodIn_of _ (by decide +kernel)) ggX5_clear_J7_fill_53178
set_option maxRecDepth 20000 in
theorem ggX5_isBalanced_X5_scaledSupply : GoodIn wsX5_isBalanced wsX5_scaledSupply := goodIn_r _ [6, 7, 8, 9, 10, 11, 12, 13, 14, 15, 16, 17, 18, 19] (by decide +kernel) (by decide +kernel)
set_option maxRecDepth 20000 in
theorem gX5_isBalanced_X5_scaledSupply : GoodIn wsX5_isBalanced (wsV RX5 49 RX5 yX5_scaledSupply wsX5_scaledSupply) := goodIn_app (goodIn_of _ (by decide +kernel)) ggX5_isBalanced_X5_scaledSupply
set_option maxRecDepth 20000 in
theorem ggX7_init_X0_init : GoodIn wsX7_init wsX0_init := goodIn_r _ [27, 28, 2, 3, 29, 30, 31, 32, 33, 34, 35, 36, 68, 69, 70, 71, 72, 73, 74, 75] (by decide +kernel) (by decide +kernel)
set_option maxRecDepth 20000 in
theorem gX7_init_X0_init_n17 : GoodIn wsX7_init (wsX0_init) := ggX7_init_X0_init
set_option maxRecDepth 20000 in
theorem ggX7_init_X8_init : GoodIn wsX7_init wsX8_init := goodIn_r _ [38, 39, 2, 3, 29, 40, 41, 42, 32, 43, 44, 45, 46, 76, 77, 78, 79, 80, 81, 82, 83] (by decide +kernel) (by decide +kernel)
set_option maxRecDepth 20000 in
theorem gX7_init_X8_init_n24 : GoodIn wsX7_init (wsX8_init) := ggX7_init_X8_init
set_option maxRecDepth 20000 in
theorem ggX7_init_X2_init : GoodIn wsX7_init wsX2_init := goodIn_r _ [48, 49, 2, 3] (by decide +kernel) (by decide +kernel)
set_option maxRecDepth 20000 in
theorem gX7_init_X2_init_n31 : GoodIn wsX7_init (wsX2_init) := ggX7_init_X2_init
set_option maxRecDepth 20000 in
theorem ggX7_init_X4_init : GoodIn wsX7_init wsX4_init := goodIn_r _ [51, 52, 2, 3, 32, 53, 92, 93] (by decide +kernel) (by decide +kernel)
set_option maxRecDepth 20000 in
theorem gX7_init_X4_init_n38 : GoodIn wsX7_init (wsX4_init) := ggX7_init_X4_init
set_option maxRecDepth 20000 in
theorem ggX7_init_X6_init : GoodIn wsX7_init wsX6_init := goodIn_r _ [55, 56, 2, 3, 57, 58, 94, 95, 96, 97, 98, 99] (by decide +kernel) (by decide +kernel)
set_option maxRecDepth 20000 in
theorem gX7_init_X6_init_n48 : GoodIn wsX7_init (wsX6_init) := ggX7_init_X6_init
set_option maxRecDepth 20000 in
theorem ggX7_run_X4_clear : GoodIn wsX7_run wsX4_clear := goodIn_r _ [15, 16, 200, 201] (by decide +kernel) (by decide +kernel)
set_option maxRecDepth 20000 in
theorem gX7_run_X4_clear : GoodIn wsX7_run (wsV RX7 63 RX4 yX4_clear wsX4_clear) := goodIn_app (goodIn_of _ (by decide +kernel)) ggX7_run_X4_clear
set_option maxRecDepth 20000 in
theorem ggX7_run_X5_isBalanced : GoodIn wsX7_run wsX5_isBalanced := goodIn_r _ [21, 22, 23, 24, 25, 20, 26, 27, 28, 29, 181, 182, 183, 184, 185, 186, 187, 188, 189, 190] (by decide +kernel) (by decide +kernel)
set_option maxRecDepth 20000 in
theorem gX7_run_X5_isBalanced : GoodIn wsX7_run (wsV RX7 66 RX5 yX5_isBalanced wsX5_isBalanced) := goodIn_app (goodIn_of _ (by decide +kernel)) ggX7_run_X5_isBalanced
set_option maxRecDepth 20000 in
theorem ggX7_run_X0_load : GoodIn wsX7_run wsX0_load := goodIn_r _ [34, 35, 36, 37, 38, 39, 40, 41, 42, 43, 44, 45, 46, 47, 48, 49, 50, 51, 52, 53, 54, 55, 56, 20, 57, 27, 58, 59, 60, 61, 62, 63, 64, 65, 24, 25, 26, 28, 29, 66, 67, 68, 33, 69, 70, 181, 182, 183, 184, 185, 186, 187, 188, 189, 190, 202, 203, 204, 205, 206, 207, 208, 209] (by decide +kernel) (by decide +kernel)
set_option maxRecDepth 20000 in
theorem gX7_run_X0_load : GoodIn wsX7_run (wsV RX7 70 RX0 yX0_load wsX0_load) := goodIn_app (goodIn_of _ (by decide +kernel)) ggX7_run_X0_load
set_option maxRecDepth 20000 in
theorem ggX7_run_X8_plant : GoodIn wsX7_run wsX8_plant := goodIn_r _ [75, 76, 77, 78, 79, 80, 81, 202, 203, 204, 205, 206, 207, 208, 209, 210, 211, 212, 213, 214, 215, 216, 217] (by decide +kernel) (by decide +kernel)
set_option maxRecDepth 20000 in
theorem gX7_run_X8_plant : GoodIn wsX7_run (wsV RX7 74 RX8 yX8_plant wsX8_plant) := goodIn_app (goodIn_of _ (by decide +kernel)) ggX7_run_X8_plant
set_option maxRecDepth 20000 in
theorem ggX7_run_X8_measure : GoodIn wsX7_run wsX8_measure := goodIn_r _ [85, 77, 81, 86, 87, 78, 79, 80, 210, 211, 212, 213, 214, 215, 216, 217, 202, 203, 204, 205, 206, 207, 208, 209] (by decide +kernel) (by decide +kernel)
set_option maxRecDepth 20000 in
theorem gX7_run_X8_measure : GoodIn wsX7_run (wsV RX7 79 RX8 yX8_measure wsX8_measure) := goodIn_app (goodIn_of _ (by decide +kernel)) ggX7_run_X8_measure
set_option maxRecDepth 20000 in
theorem ggX7_run_X7_entering : GoodIn wsX7_run wsX7_entering := goodIn_r _ [92, 7, 93, 94, 95, 96, 97, 91, 98, 99, 8, 100, 101, 102, 191, 192, 193, 194, 195, 196, 197, 198, 199, 202, 203, 204, 205, 206, 207, 208, 209, 210, 211, 212, 213, 214, 215, 216, 217] (by decide +kernel) (by decide +kernel)
set_option maxRecDepth 20000 in
theorem gX7_run_X7_entering : GoodIn wsX7_run (wsV RX7 82 RX7 yX7_entering wsX7_entering) := goodIn_app (goodIn_of _ (by decide +kernel)) ggX7_run_X7_entering
set_option maxRecDepth 20000 in
theorem ggX7_run_X4_add : GoodIn wsX7_run wsX4_add := goodIn_r _ [144, 16, 145, 146, 147, 148, 149, 150, 151, 152, 153, 154, 155, 156, 157, 158, 159, 49, 160, 161, 162, 163, 164, 200, 201] (by decide +kernel) (by decide +kernel)
set_option maxRecDepth 20000 in
theorem gX7_run_X4_add : GoodIn wsX7_run (wsV RX7 94 RX4 yX4_add wsX4_add) := goodIn_app (goodIn_of _ (by decide +kernel)) ggX7_run_X4_add
set_option maxRecDepth 20000 in
theorem ggX7_run_X0_hasArtificialFlow : GoodIn wsX7_run wsX0_hasArtificialFlow := goodIn_r _ [180, 36, 45, 202, 203, 204, 205, 206, 207, 208, 209] (by decide +kernel) (by decide +kernel)
set_option maxRecDepth 20000 in
theorem gX7_run_X0_hasArtificialFlow : GoodIn wsX7_run (wsV RX7 102 RX0 yX0_hasArtificialFlow wsX0_hasArtificialFlow) := goodIn_app (goodIn_of _ (by decide +kernel)) ggX7_run_X0_hasArtificialFlow
set_option maxRecDepth 20000 in
theorem ggX8_putInOrder_J7_fill_53178 : GoodIn wsX8_putInOrder wsJ7_fill_53178 := goodIn_r _ [9] (by decide +kernel) (by decide +kernel)
set_option maxRecDepth 20000 in
theorem gX8_putInOrder_J7_fill_53178 : GoodIn wsX8_putInOrder (va_wsS RX8 49 yJ7_fill_53178 wsJ7_fill_53178) := goodIn_app (goodIn_of _ (by decide +kernel)) ggX8_putInOrder_J7_fill_53178
set_option maxRecDepth 20000 in
theorem ggX9_init_X5_init : GoodIn wsX9_init wsX5_init := goodIn_r _ [18, 19, 2, 3, 20, 21, 22, 23, 24, 25, 26, 27, 28, 29, 121, 122, 123, 124, 125, 126, 127, 128, 129, 130] (by decide +kernel) (by decide +kernel)
set_option maxRecDepth 20000 in
theorem gX9_init_X5_init_n13 : GoodIn wsX9_init (wsX5_init) := ggX9_init_X5_init
set_option maxRecDepth 20000 in
theorem ggX9_init_X1_init : GoodIn wsX9_init wsX1_init := goodIn_r _ [31, 32, 2, 3, 33, 34, 35, 36, 37, 38, 39, 40, 41, 42, 43, 44, 45, 46, 47, 48, 49, 50, 51, 52, 53, 54, 55, 56, 57, 58, 59, 60, 61, 62, 63, 64, 65, 66, 67, 68, 69, 70, 155, 156, 136, 137, 138, 139, 140, 141, 142, 143, 144, 145, 157, 158, 159, 160, 161, 162, 163] (by decide +kernel) (by decide +kernel)
set_option maxRecDepth 20000 in
theorem gX9_init_X1_init_n20 : GoodIn wsX9_init (wsX1_init) := ggX9_init_X1_init
set_option maxRecDepth 20000 in
theorem ggX9_init_X7_init : GoodIn wsX9_init wsX7_init := goodIn_r _ [72, 73, 2, 3, 74, 75, 76, 77, 78, 79, 80, 81, 82, 83, 84, 85, 86, 87, 34, 35, 88, 89, 90, 91, 92, 93, 94, 95, 96, 22, 97, 98, 50, 99, 100, 101, 102, 103, 104, 105, 106, 107, 108, 109, 110, 111, 112, 113, 114, 115, 47, 48, 49, 51, 116, 117, 118, 119, 120, 146, 147, 148, 149, 150, 151, 152, 153, 154, 164, 165, 166, 167, 168, 169, 170, 171, 172, 173, 174, 175, 176, 177, 178, 179, 180, 181, 182, 183, 184, 185, 186, 187, 155, 156, 188, 189, 190, 191, 192, 193] (by decide +kernel) (by decide +kernel)
set_option maxRecDepth 20000 in
theorem gX9_init_X7_init_n27 : GoodIn wsX9_init (wsX7_init) := ggX9_init_X7_init
set_option maxRecDepth 20000 in
theorem ggX9_reset_X9_isWithin : GoodIn wsX9_reset wsX9_isWithin := goodIn_r _ [6] (by decide +kernel) (by decide +kernel)
set_option maxRecDepth 20000 in
theorem gX9_reset_X9_isWithin : GoodIn wsX9_reset (va_wsS RX9 35 yX9_isWithin wsX9_isWithin) := goodIn_app (goodIn_of _ (by decide +kernel)) ggX9_reset_X9_isWithin
set_option maxRecDepth 20000 in
theorem ggX9_reset_X5_clear : GoodIn wsX9_reset wsX5_clear := goodIn_r _ [11, 12, 13, 14, 15, 16, 17, 18, 19, 20, 33, 34, 35, 36, 37, 38, 39, 40, 41, 42] (by decide +kernel) (by decide +kernel)
set_option maxRecDepth 20000 in
theorem gX9_reset_X5_clear : GoodIn wsX9_reset (wsV RX9 43 RX5 yX5_clear wsX5_clear) := goodIn_app (goodIn_of _ (by decide +kernel)) ggX9_reset_X5_clear
set_option maxRecDepth 20000 in
theorem ggX9_reset_X9_forget : GoodIn wsX9_reset wsX9_forget := goodIn_r _ [24, 25, 26, 27, 28, 29, 30, 31, 32, 43, 44, 45, 46, 47, 48, 49, 50, 51, 52] (by decide +kernel) (by decide +kernel)
set_option maxRecDepth 20000 in
theorem gX9_reset_X9_forget : GoodIn wsX9_reset (wsV RX9 47 RX9 yX9_forget wsX9_forget) := goodIn_app (goodIn_of _ (by decide +kernel)) ggX9_reset_X9_forget
set_option maxRecDepth 20000 in
theorem ggX9_addArc_X5_hasNode : GoodIn wsX9_addArc wsX5_hasNode := goodIn_r _ [12, 13, 30, 31, 32, 33, 34, 35, 36, 37, 38, 39] (by decide +kernel) (by decide +kernel)
set_option maxRecDepth 20000 in
theorem gX9_addArc_X5_hasNode : GoodIn wsX9_addArc (wsV RX9 50 RX5 yX5_hasNode wsX5_hasNode) := goodIn_app (goodIn_of _ (by decide +kernel)) ggX9_addArc_X5_hasNode
set_option maxRecDepth 20000 in
theorem ggX9_addArc_X9_isWithin : GoodIn wsX9_addArc wsX9_isWithin := goodIn_r _ [17] (by decide +kernel) (by decide +kernel)
set_option maxRecDepth 20000 in
theorem gX9_addArc_X9_isWithin : GoodIn wsX9_addArc (va_wsS RX9 35 yX9_isWithin wsX9_isWithin) := goodIn_app (goodIn_of _ (by decide +kernel)) ggX9_addArc_X9_isWithin
set_option maxRecDepth 20000 in
theorem ggX9_addArc_X9_forget : GoodIn wsX9_addArc wsX9_forget := goodIn_r _ [21, 22, 23, 24, 25, 26, 27, 28, 29, 40, 41, 42, 43, 44, 45, 46, 47, 48, 49] (by decide +kernel) (by decide +kernel)
set_option maxRecDepth 20000 in
theorem gX9_addArc_X9_forget : GoodIn wsX9_addArc (wsV RX9 47 RX9 yX9_forget wsX9_forget) := goodIn_app (goodIn_of _ (by decide +kernel)) ggX9_addArc_X9_forget
set_option maxRecDepth 20000 in
theorem ggX9_removeArc_X9_forget : GoodIn wsX9_removeArc wsX9_forget := goodIn_r _ [7, 8, 9, 10, 11, 12, 13, 14, 15, 26, 27, 28, 29, 30, 31, 32, 33, 34, 35] (by decide +kernel) (by decide +kernel)
set_option maxRecDepth 20000 in
theorem gX9_removeArc_X9_forget : GoodIn wsX9_removeArc (wsV RX9 47 RX9 yX9_forget wsX9_forget) := goodIn_app (goodIn_of _ (by decide +kernel)) ggX9_removeArc_X9_forget
set_option maxRecDepth 20000 in
theorem ggX9_setArc_X5_hasArc : GoodIn wsX9_setArc wsX5_hasArc := goodIn_r _ [9, 10, 27, 28, 29, 30, 31, 32, 33, 34, 35, 36] (by decide +kernel) (by decide +kernel)
set_option maxRecDepth 20000 in
theorem gX9_setArc_X5_hasArc : GoodIn wsX9_setArc (wsV RX9 73 RX5 yX5_hasArc wsX5_hasArc) := goodIn_app (goodIn_of _ (by decide +kernel)) ggX9_setArc_X5_hasArc
set_option maxRecDepth 20000 in
theorem ggX9_setArc_X9_isWithin : GoodIn wsX9_setArc wsX9_isWithin := goodIn_r _ [14] (by decide +kernel) (by decide +kernel)
set_option maxRecDepth 20000 in
theorem gX9_setArc_X9_isWithin : GoodIn wsX9_setArc (va_wsS RX9 35 yX9_isWithin wsX9_isWithin) := goodIn_app (goodIn_of _ (by decide +kernel)) ggX9_setArc_X9_isWithin
set_option maxRecDepth 20000 in
theorem ggX9_setArc_X9_forget : GoodIn wsX9_setArc wsX9_forget := goodIn_r _ [18, 19, 20, 21, 22, 23, 24, 25, 26, 37, 38, 39, 40, 41, 42, 43, 44, 45, 46] (by decide +kernel) (by decide +kernel)
set_option maxRecDepth 20000 in
theorem gX9_setArc_X9_forget : GoodIn wsX9_setArc (wsV RX9 47 RX9 yX9_forget wsX9_forget) := goodIn_app (goodIn_of _ (by decide +kernel)) ggX9_setArc_X9_forget
set_option maxRecDepth 20000 in
theorem ggX9_setSupply_X5_hasNode : GoodIn wsX9_setSupply wsX5_hasNode := goodIn_r _ [8, 9, 26, 27, 28, 29, 30, 31, 32, 33, 34, 35] (by decide +kernel) (by decide +kernel)
set_option maxRecDepth 20000 in
theorem gX9_setSupply_X5_hasNode : GoodIn wsX9_setSupply (wsV RX9 50 RX5 yX5_hasNode wsX5_hasNode) := goodIn_app (goodIn_of _ (by decide +kernel)) ggX9_setSupply_X5_hasNode
set_option maxRecDepth 20000 in
theorem ggX9_setSupply_X9_isWithin : GoodIn wsX9_setSupply wsX9_isWithin := goodIn_r _ [13] (by decide +kernel) (by decide +kernel)
set_option maxRecDepth 20000 in
theorem gX9_setSupply_X9_isWithin : GoodIn wsX9_setSupply (va_wsS RX9 35 yX9_isWithin wsX9_isWithin) := goodIn_app (goodIn_of _ (by decide +kernel)) ggX9_setSupply_X9_isWithin
set_option maxRecDepth 20000 in
theorem ggX9_setSupply_X9_forget : GoodIn wsX9_setSupply wsX9_forget := goodIn_r _ [17, 18, 19, 20, 21, 22, 23, 24, 25, 36, 37, 38, 39, 40, 41, 42, 43, 44, 45] (by decide +kernel) (by decide +kernel)
set_option maxRecDepth 20000 in
theorem gX9_setSupply_X9_forget : GoodIn wsX9_setSupply (wsV RX9 47 RX9 yX9_forget wsX9_forget) := goodIn_app (goodIn_of _ (by decide +kernel)) ggX9_setSupply_X9_forget
set_option maxRecDepth 20000 in
theorem ggX9_setMode_X9_forget : GoodIn wsX9_setMode wsX9_forget := goodIn_r _ [7, 8, 9, 10, 11, 12, 13, 14, 15, 26, 27, 28, 29, 30, 31, 32, 33, 34, 35] (by decide +kernel) (by decide +kernel)
set_option maxRecDepth 20000 in
theorem gX9_setMode_X9_forget : GoodIn wsX9_setMode (wsV RX9 47 RX9 yX9_forget wsX9_forget) := goodIn_app (goodIn_of _ (by decide +kernel)) ggX9_setMode_X9_forget
set_option maxRecDepth 20000 in
theorem ggX9_arc_X5_hasArc : GoodIn wsX9_arc wsX5_hasArc := goodIn_r _ [11, 12, 18, 19, 20, 21, 22, 23, 24, 25, 26, 27] (by decide +kernel) (by decide +kernel)
set_option maxRecDepth 20000 in
theorem gX9_arc_X5_hasArc : GoodIn wsX9_arc (wsV RX9 73 RX5 yX5_hasArc wsX5_hasArc) := goodIn_app (goodIn_of _ (by decide +kernel)) ggX9_arc_X5_hasArc
set_option maxRecDepth 20000 in
theorem ggX9_network_X5_sumOf : GoodIn wsX9_network wsX5_sumOf := goodIn_r _ [12, 13, 19, 20, 21, 22, 23, 24, 25, 26, 27, 28] (by decide +kernel) (by decide +kernel)
set_option maxRecDepth 20000 in
theorem gX9_network_X5_sumOf : GoodIn wsX9_network (wsV RX9 85 RX5 yX5_sumOf wsX5_sumOf) := goodIn_app (goodIn_of _ (by decide +kernel)) ggX9_network_X5_sumOf
set_option maxRecDepth 20000 in
theorem ggX9_solve_X9_isParameter : GoodIn wsX9_solve wsX9_isParameter := goodIn_r _ [11, 12, 13, 10, 14] (by decide +kernel) (by decide +kernel)
set_option maxRecDepth 20000 in
theorem gX9_solve_X9_isParameter : GoodIn wsX9_solve (va_wsS RX9 93 yX9_isParameter wsX9_isParameter) := goodIn_app (goodIn_of _ (by decide +kernel)) ggX9_solve_X9_isParameter
set_option maxRecDepth 20000 in
theorem ggX9_solve_X7_run : GoodIn wsX9_solve wsX7_run := goodIn_r _ [19, 20, 21, 22, 23, 24, 25, 26, 27, 28, 29, 30, 31, 32, 33, 34, 35, 36, 37, 38, 39, 40, 41, 42, 43, 44, 45, 46, 47, 48, 49, 50, 51, 52, 53, 54, 55, 56, 57, 58, 59, 60, 61, 62, 63, 64, 65, 66, 67, 68, 69, 70, 71, 72, 73, 74, 75, 76, 77, 78, 79, 80, 81, 82, 83, 84, 85, 86, 87, 88, 89, 90, 91, 92, 93, 94, 95, 96, 97, 98, 99, 100, 101, 102, 103, 104, 105, 106, 107, 108, 109, 18, 110, 111, 112, 113, 114, 115, 116, 117, 118, 119, 120, 121, 122, 123, 124, 125, 126, 127, 128, 129, 130, 131, 132, 133, 134, 135, 136, 137, 138, 139, 140, 141, 142, 143, 144, 145, 146, 147, 148, 149, 150, 151, 152, 153, 154, 155, 156, 157, 158, 159, 160, 161, 162, 163, 164, 165, 166, 167, 168, 169, 170, 171, 172, 173, 174, 175, 176, 177, 178, 179, 180, 181, 182, 183, 184, 185, 186, 187, 188, 189, 190, 191, 192, 193, 194, 195, 196, 197, 198, 225, 226, 227, 228, 229, 230, 231, 232, 233, 234, 214, 215, 216, 217, 218, 219, 220, 221, 222, 223, 224, 235, 236, 237, 238, 239, 240, 241, 242, 243, 244, 245, 246, 247, 248, 249, 250, 251, 252, 253, 254, 255, 256, 257, 258] (by decide +kernel) (by decide +kernel)
set_option maxRecDepth 20000 in
theorem gX9_solve_X7_run : GoodIn wsX9_solve (wsV RX9 97 RX7 yX7_run wsX7_run) := goodIn_app (goodIn_of _ (by decide +kernel)) ggX9_solve_X7_run
set_option maxRecDepth 20000 in
theorem ggX9_solve_X8_putInOrder : GoodIn wsX9_solve wsX8_putInOrder := goodIn_r _ [202, 203, 96, 204, 97, 205, 206, 207, 167, 208, 243, 244, 245, 246, 247, 248, 249, 250] (by decide +kernel) (by decide +kernel)
set_option maxRecDepth 20000 in
theorem gX9_solve_X8_putInOrder : GoodIn wsX9_solve (wsV RX9 105 RX8 yX8_putInOrder wsX8_putInOrder) := goodIn_app (goodIn_of _ (by decide +kernel)) ggX9_solve_X8_putInOrder
set_option maxRecDepth 20000 in
theorem ggX9_pivot_X4_at : GoodIn wsX9_pivot wsX4_at := goodIn_r _ [10, 11, 12, 13, 34, 35] (by decide +kernel) (by decide +kernel)
set_option maxRecDepth 20000 in
theorem gX9_pivot_X4_at : GoodIn wsX9_pivot (wsV RX9 122 RX4 yX4_at wsX4_at) := goodIn_app (goodIn_of _ (by decide +kernel)) ggX9_pivot_X4_at
set_option maxRecDepth 20000 in
theorem ggX9_objective_X0_totalCost : GoodIn wsX9_objective wsX0_totalCost := goodIn_r _ [10, 11, 12, 13, 39, 40, 41, 42, 43, 44, 45, 46] (by decide +kernel) (by decide +kernel)
set_option maxRecDepth 20000 in
theorem gX9_objective_X0_totalCost : GoodIn wsX9_objective (wsV RX9 133 RX0 yX0_totalCost wsX0_totalCost) := goodIn_app (goodIn_of _ (by decide +kernel)) ggX9_objective_X0_totalCost
set_option maxRecDepth 20000 in
theorem ggX9_objective_X9_lowestTerms : GoodIn wsX9_objective wsX9_lowestTerms := goodIn_r _ [17, 5, 18, 19, 16, 20, 21, 22, 23, 24] (by decide +kernel) (by decide +kernel)
set_option maxRecDepth 20000 in
theorem gX9_objective_X9_lowestTerms : GoodIn wsX9_objective (va_wsS RX9 143 yX9_lowestTerms wsX9_lowestTerms) := goodIn_app (goodIn_of _ (by decide +kernel)) ggX9_objective_X9_lowestTerms
set_option maxRecDepth 20000 in
theorem ggX9_flow_X5_hasArc : GoodIn wsX9_flow wsX5_hasArc := goodIn_r _ [13, 14, 48, 49, 50, 51, 52, 53, 54, 55, 56, 57] (by decide +kernel) (by decide +kernel)
set_option maxRecDepth 20000 in
theorem gX9_flow_X5_hasArc : GoodIn wsX9_flow (wsV RX9 73 RX5 yX5_hasArc wsX5_hasArc) := goodIn_app (goodIn_of _ (by decide +kernel)) ggX9_flow_X5_hasArc
set_option maxRecDepth 20000 in
theorem ggX9_flow_X9_lowestTerms : GoodIn wsX9_flow wsX9_lowestTerms := goodIn_r _ [18, 3, 19, 20, 17, 21, 22, 23, 24, 25] (by decide +kernel) (by decide +kernel)
set_option maxRecDepth 20000 in
theorem gX9_flow_X9_lowestTerms : GoodIn wsX9_flow (va_wsS RX9 143 yX9_lowestTerms wsX9_lowestTerms) := goodIn_app (goodIn_of _ (by decide +kernel)) ggX9_flow_X9_lowestTerms
set_option maxRecDepth 20000 in
theorem ggX9_reducedCost_X5_hasArc : GoodIn wsX9_reducedCost wsX5_hasArc := goodIn_r _ [9, 10, 27, 28, 29, 30, 31, 32, 33, 34, 35, 36] (by decide +kernel) (by decide +kernel)
set_option maxRecDepth 20000 in
theorem gX9_reducedCost_X5_hasArc : GoodIn wsX9_reducedCost (wsV RX9 73 RX5 yX5_hasArc wsX5_hasArc) := goodIn_app (goodIn_of _ (by decide +kernel)) ggX9_reducedCost_X5_hasArc
set_option maxRecDepth 20000 in
theorem ggX9_potential_X5_hasNode : GoodIn wsX9_potential wsX5_hasNode := goodIn_r _ [11, 12, 35, 36, 37, 38, 39, 40, 41, 42, 43, 44] (by decide +kernel) (by decide +kernel)
set_option maxRecDepth 20000 in
theorem gX9_potential_X5_hasNode : GoodIn wsX9_potential (wsV RX9 50 RX5 yX5_hasNode wsX5_hasNode) := goodIn_app (goodIn_of _ (by decide +kernel)) ggX9_potential_X5_hasNode
set_option maxRecDepth 20000 in
theorem ggX9_bound_X5_hasArc : GoodIn wsX9_bound wsX5_hasArc := goodIn_r _ [10, 11, 34, 35, 36, 37, 38, 39, 40, 41, 42, 43] (by decide +kernel) (by decide +kernel)
set_option maxRecDepth 20000 in
theorem gX9_bound_X5_hasArc : GoodIn wsX9_bound (wsV RX9 73 RX5 yX5_hasArc wsX5_hasArc) := goodIn_app (goodIn_of _ (by decide +kernel)) ggX9_bound_X5_hasArc
set_option maxRecDepth 20000 in
theorem ggX9_tree_X5_hasNode : GoodIn wsX9_tree wsX5_hasNode := goodIn_r _ [13, 14, 43, 44, 45, 46, 47, 48, 49, 50, 51, 52] (by decide +kernel) (by decide +kernel)
set_option maxRecDepth 20000 in
theorem gX9_tree_X5_hasNode : GoodIn wsX9_tree (wsV RX9 50 RX5 yX5_hasNode wsX5_hasNode) := goodIn_app (goodIn_of _ (by decide +kernel)) ggX9_tree_X5_hasNode
set_option maxRecDepth 20000 in
theorem ggX9_value_X9_isParameter : GoodIn wsX9_value wsX9_isParameter := goodIn_r _ [8, 9, 10, 7, 11] (by decide +kernel) (by decide +kernel)
set_option maxRecDepth 20000 in
theorem gX9_value_X9_isParameter : GoodIn wsX9_value (va_wsS RX9 93 yX9_isParameter wsX9_isParameter) := goodIn_app (goodIn_of _ (by decide +kernel)) ggX9_value_X9_isParameter
set_option maxRecDepth 20000 in
theorem ggX9_value_X7_run : GoodIn wsX9_value wsX7_run := goodIn_r _ [16, 17, 18, 19, 20, 21, 22, 23, 24, 25, 26, 27, 28, 29, 30, 31, 32, 33, 34, 35, 36, 37, 38, 39, 40, 41, 42, 43, 44, 45, 46, 47, 48, 49, 50, 51, 52, 53, 54, 55, 56, 57, 58, 59, 60, 61, 62, 63, 64, 65, 66, 67, 68, 69, 70, 71, 72, 73, 74, 75, 76, 77, 78, 79, 80, 81, 82, 83, 84, 85, 86, 87, 88, 89, 90, 91, 92, 93, 94, 95, 96, 97, 98, 99, 100, 101, 102, 103, 104, 105, 106, 15, 107, 108, 109, 110, 111, 112, 113, 114, 115, 116, 117, 118, 119, 120, 121, 122, 123, 124, 125, 126, 127, 128, 129, 130, 131, 132, 133, 134, 135, 136, 137, 138, 139, 140, 141, 142, 143, 144, 145, 146, 147, 148, 149, 150, 151, 152, 153, 154, 155, 156, 157, 158, 159, 160, 161, 162, 163, 164, 165, 166, 167, 168, 169, 170, 171, 172, 173, 174, 175, 176, 177, 178, 179, 180, 181, 182, 183, 184, 185, 186, 187, 188, 189, 190, 191, 192, 193, 194, 195, 221, 222, 223, 224, 225, 226, 227, 228, 229, 230, 212, 213, 214, 215, 216, 217, 218, 219, 220, 231, 232, 233, 234, 235, 236, 237, 238, 239, 240, 241, 242, 243, 244, 245, 246, 247, 248, 249, 250, 251, 252, 253, 254, 255, 256] (by decide +kernel) (by decide +kernel)
set_option maxRecDepth 20000 in
theorem gX9_value_X7_run : GoodIn wsX9_value (wsV RX9 97 RX7 yX7_run wsX7_run) := goodIn_app (goodIn_of _ (by decide +kernel)) ggX9_value_X7_run
set_option maxRecDepth 20000 in
theorem ggX9_value_X0_totalCost : GoodIn wsX9_value wsX0_totalCost := goodIn_r _ [199, 54, 61, 60, 233, 234, 235, 236, 237, 238, 239, 240] (by decide +kernel) (by decide +kernel)
set_option maxRecDepth 20000 in
theorem gX9_value_X0_totalCost : GoodIn wsX9_value (wsV RX9 133 RX0 yX0_totalCost wsX0_totalCost) := goodIn_app (goodIn_of _ (by decide +kernel)) ggX9_value_X0_totalCost
set_option maxRecDepth 20000 in
theorem ggX9_value_X9_lowestTerms : GoodIn wsX9_value wsX9_lowestTerms := goodIn_r _ [202, 3, 203, 204, 7, 205, 206, 64, 65, 66] (by decide +kernel) (by decide +kernel)
set_option maxRecDepth 20000 in
theorem gX9_value_X9_lowestTerms : GoodIn wsX9_value (va_wsS RX9 143 yX9_lowestTerms wsX9_lowestTerms) := goodIn_app (goodIn_of _ (by decide +kernel)) ggX9_value_X9_lowestTerms
set_option maxRecDepth 20000 in
theorem ggX9_problem_X9_isParameter : GoodIn wsX9_problem wsX9_isParameter := goodIn_r _ [6, 7, 8, 5, 9] (by decide +kernel) (by decide +kernel)
set_option maxRecDepth 20000 in
theorem gX9_problem_X9_isParameter : GoodIn wsX9_problem (va_wsS RX9 93 yX9_isParameter wsX9_isParameter) := goodIn_app (goodIn_of _ (by decide +kernel)) ggX9_problem_X9_isParameter
set_option maxRecDepth 20000 in
theorem ggX9_problem_X7_run : GoodIn wsX9_problem wsX7_run := goodIn_r _ [14, 15, 16, 17, 18, 19, 20, 21, 22, 23, 24, 25, 26, 27, 28, 29, 30, 31, 32, 33, 34, 35, 36, 37, 38, 39, 40, 41, 42, 43, 44, 45, 46, 47, 48, 49, 50, 51, 52, 53, 54, 55, 56, 57, 58, 59, 60, 61, 62, 63, 64, 65, 66, 67, 68, 69, 70, 71, 72, 73, 74, 75, 76, 77, 78, 79, 80, 81, 82, 83, 84, 85, 86, 87, 88, 89, 90, 91, 92, 93, 94, 95, 96, 97, 98, 99, 100, 101, 102, 103, 104, 13, 105, 106, 107, 108, 109, 110, 111, 112, 113, 114, 115, 116, 117, 118, 119, 120, 121, 122, 123, 124, 125, 126, 127, 128, 129, 130, 131, 132, 133, 134, 135, 136, 137, 138, 139, 140, 141, 142, 143, 144, 145, 146, 147, 148, 149, 150, 151, 152, 153, 154, 155, 156, 157, 158, 159, 160, 161, 162, 163, 164, 165, 166, 167, 168, 169, 170, 171, 172, 173, 174, 175, 176, 177, 178, 179, 180, 181, 182, 183, 184, 185, 186, 187, 188, 189, 190, 191, 192, 193, 199, 200, 201, 202, 203, 204, 205, 206, 207, 208, 209, 210, 211, 212, 213, 214, 215, 216, 217, 218, 219, 220, 221, 222, 223, 224, 225, 226, 227, 228, 229, 230, 231, 232, 233, 234, 235, 236, 237, 238, 239, 240, 241, 242, 243] (by decide +kernel) (by decide +kernel)
set_option maxRecDepth 20000 in
theorem gX9_problem_X7_run : GoodIn wsX9_problem (wsV RX9 97 RX7 yX7_run wsX7_run) := goodIn_app (goodIn_of _ (by decide +kernel)) ggX9_problem_X7_run
set_option maxRecDepth 20000 in
theorem ggX9_breakpoints_X9_isInterval : GoodIn wsX9_breakpoints wsX9_isInterval := goodIn_r _ [9, 10, 11, 8, 12] (by decide +kernel) (by decide +kernel)
set_option maxRecDepth 20000 in
theorem gX9_breakpoints_X9_isInterval : GoodIn wsX9_breakpoints (va_wsS RX9 181 yX9_isInterval wsX9_isInterval) := goodIn_app (goodIn_of _ (by decide +kernel)) ggX9_breakpoints_X9_isInterval
set_option maxRecDepth 20000 in
theorem ggX9_breakpoints_X1_trace : GoodIn wsX9_breakpoints wsX1_trace := goodIn_r _ [17, 18, 19, 20, 21, 22, 23, 24, 25, 26, 27, 28, 29, 16, 30, 31, 32, 33, 34, 35, 36, 37, 38, 39, 40, 41, 42, 43, 44, 45, 46, 47, 48, 49, 50, 51, 52, 53, 54, 55, 56, 57, 58, 59, 60, 61, 62, 63, 64, 65, 66, 67, 68, 69, 70, 71, 72, 73, 74, 75, 76, 77, 78, 79, 80, 81, 82, 83, 84, 85, 86, 87, 88, 89, 90, 91, 92, 93, 94, 95, 96, 97, 98, 99, 100, 101, 102, 103, 104, 105, 106, 107, 108, 109, 110, 111, 112, 113, 114, 115, 116, 117, 118, 119, 120, 121, 122, 123, 124, 125, 126, 127, 128, 129, 130, 131, 132, 133, 134, 135, 136, 137, 138, 139, 140, 141, 142, 143, 144, 145, 146, 147, 148, 149, 150, 151, 152, 153, 154, 155, 156, 157, 158, 159, 160, 161, 162, 163, 164, 165, 166, 167, 168, 169, 170, 171, 172, 173, 174, 175, 176, 177, 178, 179, 180, 181, 182, 183, 184, 185, 186, 187, 188, 189, 190, 191, 192, 193, 194, 195, 196, 197, 198, 199, 200, 201, 202, 203, 204, 205, 206, 207, 208, 209, 210, 211, 212, 213, 214, 215, 216, 217, 218, 219, 220, 221, 222, 223, 224, 225, 226, 227, 228, 229, 230, 231, 232, 233, 234, 235, 236, 237, 238, 239, 240, 241, 242, 243, 244, 245, 246, 247, 248, 249, 250, 251, 252, 253, 254, 255, 256, 257, 258, 259, 260, 261, 262, 263, 264, 265, 266, 267, 268, 269, 270, 271, 272, 273, 274, 275, 276, 277, 278, 279, 280, 281, 282, 283, 284, 285, 286, 287, 288, 289, 290, 291, 292, 293, 294, 295, 296, 297, 298, 299, 300, 301, 302, 303, 304, 305, 306, 307, 308, 309, 310, 311, 312, 313, 314, 315, 316, 317, 318, 319, 320, 321, 322, 323, 324, 325, 326, 327, 328, 329, 330, 331, 332, 333, 334, 8, 335, 336, 337, 338, 339, 340, 341, 342, 343, 344, 350, 351, 352, 353, 354, 355, 356, 357, 358, 359, 362, 363, 364, 365, 366, 367, 368, 369, 370, 371, 372, 373, 374, 375, 376, 377, 378, 379, 380, 381, 382, 383, 384, 360, 361, 385, 386, 387, 388, 389, 390, 391, 392, 393, 394, 395, 396, 397, 398, 399, 400, 401, 402, 403, 404, 405, 406, 407, 408, 409, 410, 411] (by decide +kernel) (by decide +kernel)
set_option maxRecDepth 20000 in
theorem gX9_breakpoints_X1_trace : GoodIn wsX9_breakpoints (wsV RX9 184 RX1 yX1_trace wsX1_trace) := goodIn_app (goodIn_of _ (by decide +kernel)) ggX9_breakpoints_X1_trace
set_option maxRecDepth 20000 in
theorem ggX9_breakpoint_X9_isInterval : GoodIn wsX9_breakpoint wsX9_isInterval := goodIn_r _ [10, 11, 12, 9, 13] (by decide +kernel) (by decide +kernel)
set_option maxRecDepth 20000 in
theorem gX9_breakpoint_X9_isInterval : GoodIn wsX9_breakpoint (va_wsS RX9 181 yX9_isInterval wsX9_isInterval) := goodIn_app (goodIn_of _ (by decide +kernel)) ggX9_breakpoint_X9_isInterval
set_option maxRecDepth 20000 in
theorem ggX9_breakpoint_X1_trace : GoodIn wsX9_breakpoint wsX1_trace := goodIn_r _ [18, 19, 20, 21, 22, 23, 24, 25, 26, 27, 28, 29, 30, 17, 31, 32, 33, 34, 35, 36, 37, 38, 39, 40, 41, 42, 43, 44, 45, 46, 47, 48, 49, 50, 51, 52, 53, 54, 55, 56, 57, 58, 59, 60, 61, 62, 63, 64, 65, 66, 67, 68, 69, 70, 71, 72, 73, 74, 75, 76, 77, 78, 79, 80, 81, 82, 83, 84, 85, 86, 87, 88, 89, 90, 91, 92, 93, 94, 95, 96, 97, 98, 99, 100, 101, 102, 103, 104, 105, 106, 107, 108, 109, 110, 111, 112, 113, 114, 115, 116, 117, 118, 119, 120, 121, 122, 123, 124, 125, 126, 127, 128, 129, 130, 131, 132, 133, 134, 135, 136, 137, 138, 139, 140, 141, 142, 143, 144, 145, 146, 147, 148, 149, 150, 151, 152, 153, 154, 155, 156, 157, 158, 159, 160, 161, 162, 163, 164, 165, 166, 167, 168, 169, 170, 171, 172, 173, 174, 175, 176, 177, 178, 179, 180, 181, 182, 183, 184, 185, 186, 187, 188, 189, 190, 191, 192, 193, 194, 195, 196, 197, 198, 199, 200, 201, 202, 203, 204, 205, 206, 207, 208, 209, 210, 211, 212, 213, 214, 215, 216, 217, 218, 219, 220, 221, 222, 223, 224, 225, 226, 227, 228, 229, 230, 231, 232, 233, 234, 235, 236, 237, 238, 239, 240, 241, 242, 243, 244, 245, 246, 247, 248, 249, 250, 251, 252, 253, 254, 255, 256, 257, 258, 259, 260, 261, 262, 263, 264, 265, 266, 267, 268, 269, 270, 271, 272, 273, 274, 275, 276, 277, 278, 279, 280, 281, 282, 283, 284, 285, 286, 287, 288, 289, 290, 291, 292, 293, 294, 295, 296, 297, 298, 299, 300, 301, 302, 303, 304, 305, 306, 307, 308, 309, 310, 311, 312, 313, 314, 315, 316, 317, 318, 319, 320, 321, 322, 323, 324, 325, 326, 327, 328, 329, 330, 331, 332, 333, 334, 335, 9, 336, 337, 338, 339, 340, 341, 342, 343, 344, 345, 356, 357, 358, 359, 360, 361, 362, 363, 364, 365, 366, 367, 368, 369, 370, 371, 372, 373, 374, 375, 376, 377, 378, 379, 380, 381, 382, 383, 384, 385, 386, 387, 388, 389, 390, 391, 392, 393, 394, 395, 396, 397, 398, 399, 400, 401, 402, 403, 404, 405, 406, 407, 408, 409, 410, 411, 412, 413, 414, 415, 416, 417] (by decide +kernel) (by decide +kernel)
set_option maxRecDepth 20000 in
theorem gX9_breakpoint_X1_trace : GoodIn wsX9_breakpoint (wsV RX9 184 RX1 yX1_trace wsX1_trace) := goodIn_app (goodIn_of _ (by decide +kernel)) ggX9_breakpoint_X1_trace
set_option maxRecDepth 20000 in
theorem ggX9_breakpoint_X4_at : GoodIn wsX9_breakpoint wsX4_at := goodIn_r _ [349, 79, 195, 350, 389, 390] (by decide +kernel) (by decide +kernel)
set_option maxRecDepth 20000 in
theorem gX9_breakpoint_X4_at : GoodIn wsX9_breakpoint (wsV RX9 122 RX4 yX4_at wsX4_at) := goodIn_app (goodIn_of _ (by decide +kernel)) ggX9_breakpoint_X4_at
set_option maxRecDepth 20000 in
theorem ggX9_slope_X9_isInterval : GoodIn wsX9_slope wsX9_isInterval := goodIn_r _ [9, 10, 11, 8, 12] (by decide +kernel) (by decide +kernel)
set_option maxRecDepth 20000 in
theorem gX9_slope_X9_isInterval : GoodIn wsX9_slope (va_wsS RX9 181 yX9_isInterval wsX9_isInterval) := goodIn_app (goodIn_of _ (by decide +kernel)) ggX9_slope_X9_isInterval
set_option maxRecDepth 20000 in
theorem ggX9_slope_X1_trace : GoodIn wsX9_slope wsX1_trace := goodIn_r _ [17, 18, 19, 20, 21, 22, 23, 24, 25, 26, 27, 28, 29, 16, 30, 31, 32, 33, 34, 35, 36, 37, 38, 39, 40, 41, 42, 43, 44, 45, 46, 47, 48, 49, 50, 51, 52, 53, 54, 55, 56, 57, 58, 59, 60, 61, 62, 63, 64, 65, 66, 67, 68, 69, 70, 71, 72, 73, 74, 75, 76, 77, 78, 79, 80, 81, 82, 83, 84, 85, 86, 87, 88, 89, 90, 91, 92, 93, 94, 95, 96, 97, 98, 99, 100, 101, 102, 103, 104, 105, 106, 107, 108, 109, 110, 111, 112, 113, 114, 115, 116, 117, 118, 119, 120, 121, 122, 123, 124, 125, 126, 127, 128, 129, 130, 131, 132, 133, 134, 135, 136, 137, 138, 139, 140, 141, 142, 143, 144, 145, 146, 147, 148, 149, 150, 151, 152, 153, 154, 155, 156, 157, 158, 159, 160, 161, 162, 163, 164, 165, 166, 167, 168, 169, 170, 171, 172, 173, 174, 175, 176, 177, 178, 179, 180, 181, 182, 183, 184, 185, 186, 187, 188, 189, 190, 191, 192, 193, 194, 195, 196, 197, 198, 199, 200, 201, 202, 203, 204, 205, 206, 207, 208, 209, 210, 211, 212, 213, 214, 215, 216, 217, 218, 219, 220, 221, 222, 223, 224, 225, 226, 227, 228, 229, 230, 231, 232, 233, 234, 235, 236, 237, 238, 239, 240, 241, 242, 243, 244, 245, 246, 247, 248, 249, 250, 251, 252, 253, 254, 255, 256, 257, 258, 259, 260, 261, 262, 263, 264, 265, 266, 267, 268, 269, 270, 271, 272, 273, 274, 275, 276, 277, 278, 279, 280, 281, 282, 283, 284, 285, 286, 287, 288, 289, 290, 291, 292, 293, 294, 295, 296, 297, 298, 299, 300, 301, 302, 303, 304, 305, 306, 307, 308, 309, 310, 311, 312, 313, 314, 315, 316, 317, 318, 319, 320, 321, 322, 323, 324, 325, 326, 327, 328, 329, 330, 331, 332, 333, 334, 8, 335, 336, 337, 338, 339, 340, 341, 342, 343, 344, 355, 356, 357, 358, 359, 360, 361, 362, 363, 364, 365, 366, 367, 368, 369, 370, 371, 372, 373, 374, 375, 376, 377, 378, 379, 380, 381, 382, 383, 384, 385, 386, 387, 388, 389, 390, 391, 392, 393, 394, 395, 396, 397, 398, 399, 400, 401, 402, 403, 404, 405, 406, 407, 408, 409, 410, 411, 412, 413, 414, 415, 416] (by decide +kernel) (by decide +kernel)
set_option maxRecDepth 20000 in
theorem gX9_slope_X1_trace : GoodIn wsX9_slope (wsV RX9 184 RX1 yX1_trace wsX1_trace) := goodIn_app (goodIn_of _ (by decide +kernel)) ggX9_slope_X1_trace
set_option maxRecDepth 20000 in
theorem ggX9_slope_X4_at : GoodIn wsX9_slope wsX4_at := goodIn_r _ [348, 78, 194, 349, 388, 389] (by decide +kernel) (by decide +kernel)
set_option maxRecDepth 20000 in
theorem gX9_slope_X4_at : GoodIn wsX9_slope (wsV RX9 122 RX4 yX4_at wsX4_at) := goodIn_app (goodIn_of _ (by decide +kernel)) ggX9_slope_X4_at
set_option maxRecDepth 20000 in
theorem ggX9_isParameter_X9_isWithin : GoodIn wsX9_isParameter wsX9_isWithin := goodIn_r _ [4] (by decide +kernel) (by decide +kernel)
set_option maxRecDepth 20000 in
theorem gX9_isParameter_X9_isWithin : GoodIn wsX9_isParameter (va_wsS RX9 35 yX9_isWithin wsX9_isWithin) := goodIn_app (goodIn_of _ (by decide +kernel)) ggX9_isParameter_X9_isWithin
set_option maxRecDepth 20000 in
theorem ggX9_isInterval_X9_isWithin : GoodIn wsX9_isInterval wsX9_isWithin := goodIn_r _ [4] (by decide +kernel) (by decide +kernel)
set_option maxRecDepth 20000 in
theorem gX9_isInterval_X9_isWithin : GoodIn wsX9_isInterval (va_wsS RX9 35 yX9_isWithin wsX9_isWithin) := goodIn_app (goodIn_of _ (by decide +kernel)) ggX9_isInterval_X9_isWithin
set_option maxRecDepth 20000 in
theorem ggX9_lowestTerms_X9_commonDivisor : GoodIn wsX9_lowestTerms wsX9_commonDivisor := goodIn_r _ [5, 6, 7, 8, 9] (by decide +kernel) (by decide +kernel)
set_option maxRecDepth 20000 in
theorem gX9_lowestTerms_X9_commonDivisor : GoodIn wsX9_lowestTerms (va_wsS RX9 204 yX9_commonDivisor wsX9_commonDivisor) := goodIn_app (goodIn_of _ (by decide +kernel)) ggX9_lowestTerms_X9_commonDivisor
set_option maxRecDepth 20000 in
theorem ggX10_init_X10_begin : GoodIn wsX10_init wsX10_begin := goodIn_r _ [41, 42, 43, 44, 10, 11, 45, 46, 47, 48, 49, 50, 51, 52, 53, 54, 55, 56, 57, 58, 59, 60, 61, 62, 63, 64, 65, 66, 67, 68, 69, 70, 71, 72, 73, 74, 75, 76, 77, 78, 79, 80, 81, 82, 83, 84, 85, 86, 87, 88, 89, 90, 91, 92, 93] (by decide +kernel) (by decide +kernel)
set_option maxRecDepth 20000 in
theorem gX10_init_X10_begin : GoodIn wsX10_init (wsV RX10 102 RX10 yX10_begin wsX10_begin) := goodIn_app (goodIn_of _ (by decide +kernel)) ggX10_init_X10_begin
set_option maxRecDepth 20000 in
theorem ggX10_common_X10_size : GoodIn wsX10_common wsX10_size := goodIn_r _ [4] (by decide +kernel) (by decide +kernel)
set_option maxRecDepth 20000 in
theorem gX10_common_X10_size : GoodIn wsX10_common (va_wsS RX10 108 yX10_size wsX10_size) := goodIn_app (goodIn_of _ (by decide +kernel)) ggX10_common_X10_size
set_option maxRecDepth 20000 in
theorem ggX10_part_X10_common : GoodIn wsX10_part wsX10_common := goodIn_r _ [5, 6, 7, 4, 8] (by decide +kernel) (by decide +kernel)
set_option maxRecDepth 20000 in
theorem gX10_part_X10_common : GoodIn wsX10_part (va_wsS RX10 112 yX10_common wsX10_common) := goodIn_app (goodIn_of _ (by decide +kernel)) ggX10_part_X10_common
set_option maxRecDepth 20000 in
theorem ggX10_reset_X10_in : GoodIn wsX10_reset wsX10_in := goodIn_r _ [5] (by decide +kernel) (by decide +kernel)
set_option maxRecDepth 20000 in
theorem gX10_reset_X10_in : GoodIn wsX10_reset (va_wsS RX10 132 yX10_in wsX10_in) := goodIn_app (goodIn_of _ (by decide +kernel)) ggX10_reset_X10_in
set_option maxRecDepth 20000 in
theorem ggX10_reset_X10_begin : GoodIn wsX10_reset wsX10_begin := goodIn_r _ [9, 1, 10, 11, 12, 13, 14, 15, 16, 17, 18, 19, 20, 21, 22, 23, 24, 25, 26, 27, 28, 29, 30, 31, 32, 33, 34, 35, 36, 37, 38, 39, 40, 41, 42, 43, 44, 45, 46, 47, 48, 49, 50, 51, 52, 53, 54, 55, 56, 57, 58, 59, 60, 61, 62] (by decide +kernel) (by decide +kernel)
set_option maxRecDepth 20000 in
theorem gX10_reset_X10_begin : GoodIn wsX10_reset (wsV RX10 102 RX10 yX10_begin wsX10_begin) := goodIn_app (goodIn_of _ (by decide +kernel)) ggX10_reset_X10_begin
set_option maxRecDepth 20000 in
theorem ggX10_noNode_X10_in : GoodIn wsX10_noNode wsX10_in := goodIn_r _ [5] (by decide +kernel) (by decide +kernel)
set_option maxRecDepth 20000 in
theorem gX10_noNode_X10_in : GoodIn wsX10_noNode (va_wsS RX10 132 yX10_in wsX10_in) := goodIn_app (goodIn_of _ (by decide +kernel)) ggX10_noNode_X10_in
set_option maxRecDepth 20000 in
theorem ggX10_noArc_X10_in : GoodIn wsX10_noArc wsX10_in := goodIn_r _ [5] (by decide +kernel) (by decide +kernel)
set_option maxRecDepth 20000 in
theorem gX10_noArc_X10_in : GoodIn wsX10_noArc (va_wsS RX10 132 yX10_in wsX10_in) := goodIn_app (goodIn_of _ (by decide +kernel)) ggX10_noArc_X10_in
set_option maxRecDepth 20000 in
theorem ggX10_isCapacity_X10_in : GoodIn wsX10_isCapacity wsX10_in := goodIn_r _ [4] (by decide +kernel) (by decide +kernel)
set_option maxRecDepth 20000 in
theorem gX10_isCapacity_X10_in : GoodIn wsX10_isCapacity (va_wsS RX10 132 yX10_in wsX10_in) := goodIn_app (goodIn_of _ (by decide +kernel)) ggX10_isCapacity_X10_in
set_option maxRecDepth 20000 in
theorem ggX10_isCost_X10_in : GoodIn wsX10_isCost wsX10_in := goodIn_r _ [4] (by decide +kernel) (by decide +kernel)
set_option maxRecDepth 20000 in
theorem gX10_isCost_X10_in : GoodIn wsX10_isCost (va_wsS RX10 132 yX10_in wsX10_in) := goodIn_app (goodIn_of _ (by decide +kernel)) ggX10_isCost_X10_in
set_option maxRecDepth 20000 in
theorem ggX10_isSlope_X10_in : GoodIn wsX10_isSlope wsX10_in := goodIn_r _ [4] (by decide +kernel) (by decide +kernel)
set_option maxRecDepth 20000 in
theorem gX10_isSlope_X10_in : GoodIn wsX10_isSlope (va_wsS RX10 132 yX10_in wsX10_in) := goodIn_app (goodIn_of _ (by decide +kernel)) ggX10_isSlope_X10_in
set_option maxRecDepth 20000 in
theorem ggX10_addArc_X10_noNode : GoodIn wsX10_addArc wsX10_noNode := goodIn_r _ [12, 13, 14, 15, 11, 16, 26, 27, 28, 29, 30, 31, 32, 33, 34, 35, 36, 37, 38, 39, 40, 41, 42, 43, 44, 45, 46, 47, 48, 49, 50, 51, 52, 53, 54, 55, 56, 57, 58, 59, 60, 61, 62, 63, 64, 65, 66, 67, 68, 69, 70, 71, 72, 73] (by decide +kernel) (by decide +kernel)
set_option maxRecDepth 20000 in
theorem gX10_addArc_X10_noNode : GoodIn wsX10_addArc (wsV RX10 136 RX10 yX10_noNode wsX10_noNode) := goodIn_app (goodIn_of _ (by decide +kernel)) ggX10_addArc_X10_noNode
set_option maxRecDepth 20000 in
theorem ggX10_addArc_X10_isCapacity : GoodIn wsX10_addArc wsX10_isCapacity := goodIn_r _ [19, 14, 15, 11, 16] (by decide +kernel) (by decide +kernel)
set_option maxRecDepth 20000 in
theorem gX10_addArc_X10_isCapacity : GoodIn wsX10_addArc (va_wsS RX10 140 yX10_isCapacity wsX10_isCapacity) := goodIn_app (goodIn_of _ (by decide +kernel)) ggX10_addArc_X10_isCapacity
set_option maxRecDepth 20000 in
theorem ggX10_addArc_X10_isCost : GoodIn wsX10_addArc wsX10_isCost := goodIn_r _ [22, 14, 15, 11, 16] (by decide +kernel) (by decide +kernel)
set_option maxRecDepth 20000 in
theorem gX10_addArc_X10_isCost : GoodIn wsX10_addArc (va_wsS RX10 143 yX10_isCost wsX10_isCost) := goodIn_app (goodIn_of _ (by decide +kernel)) ggX10_addArc_X10_isCost
set_option maxRecDepth 20000 in
theorem ggX10_addArc_X10_isSlope : GoodIn wsX10_addArc wsX10_isSlope := goodIn_r _ [25, 14, 15, 11, 16] (by decide +kernel) (by decide +kernel)
set_option maxRecDepth 20000 in
theorem gX10_addArc_X10_isSlope : GoodIn wsX10_addArc (va_wsS RX10 146 yX10_isSlope wsX10_isSlope) := goodIn_app (goodIn_of _ (by decide +kernel)) ggX10_addArc_X10_isSlope
set_option maxRecDepth 20000 in
theorem ggX10_setArc_X10_noArc : GoodIn wsX10_setArc wsX10_noArc := goodIn_r _ [9, 10, 11, 12, 8, 13, 23, 24, 25, 26, 27, 28, 29, 30, 31, 32, 33, 34, 35, 36, 37, 38, 39, 40, 41, 42, 43, 44, 45, 46, 47, 48, 49, 50, 51, 52, 53, 54, 55, 56, 57, 58, 59, 60, 61, 62, 63, 64, 65, 66, 67, 68, 69, 70] (by decide +kernel) (by decide +kernel)
set_option maxRecDepth 20000 in
theorem gX10_setArc_X10_noArc : GoodIn wsX10_setArc (wsV RX10 149 RX10 yX10_noArc wsX10_noArc) := goodIn_app (goodIn_of _ (by decide +kernel)) ggX10_setArc_X10_noArc
set_option maxRecDepth 20000 in
theorem ggX10_setArc_X10_in : GoodIn wsX10_setArc wsX10_in := goodIn_r _ [13] (by decide +kernel) (by decide +kernel)
set_option maxRecDepth 20000 in
theorem gX10_setArc_X10_in : GoodIn wsX10_setArc (va_wsS RX10 132 yX10_in wsX10_in) := goodIn_app (goodIn_of _ (by decide +kernel)) ggX10_setArc_X10_in
set_option maxRecDepth 20000 in
theorem ggX10_setArc_X10_isCapacity : GoodIn wsX10_setArc wsX10_isCapacity := goodIn_r _ [16, 11, 12, 8, 13] (by decide +kernel) (by decide +kernel)
set_option maxRecDepth 20000 in
theorem gX10_setArc_X10_isCapacity : GoodIn wsX10_setArc (va_wsS RX10 140 yX10_isCapacity wsX10_isCapacity) := goodIn_app (goodIn_of _ (by decide +kernel)) ggX10_setArc_X10_isCapacity
set_option maxRecDepth 20000 in
theorem ggX10_setArc_X10_isCost : GoodIn wsX10_setArc wsX10_isCost := goodIn_r _ [19, 11, 12, 8, 13] (by decide +kernel) (by decide +kernel)
set_option maxRecDepth 20000 in
theorem gX10_setArc_X10_isCost : GoodIn wsX10_setArc (va_wsS RX10 143 yX10_isCost wsX10_isCost) := goodIn_app (goodIn_of _ (by decide +kernel)) ggX10_setArc_X10_isCost
set_option maxRecDepth 20000 in
theorem ggX10_setArc_X10_isSlope : GoodIn wsX10_setArc wsX10_isSlope := goodIn_r _ [22, 11, 12, 8, 13] (by decide +kernel) (by decide +kernel)
set_option maxRecDepth 20000 in
theorem gX10_setArc_X10_isSlope : GoodIn wsX10_setArc (va_wsS RX10 146 yX10_isSlope wsX10_isSlope) := goodIn_app (goodIn_of _ (by decide +kernel)) ggX10_setArc_X10_isSlope
set_option maxRecDepth 20000 in
theorem ggX10_setSupply_X10_noNode : GoodIn wsX10_setSupply wsX10_noNode := goodIn_r _ [8, 9, 10, 11, 7, 12, 16, 17, 18, 19, 20, 21, 22, 23, 24, 25, 26, 27, 28, 29, 30, 31, 32, 33, 34, 35, 36, 37, 38, 39, 40, 41, 42, 43, 44, 45, 46, 47, 48, 49, 50, 51, 52, 53, 54, 55, 56, 57, 58, 59, 60, 61, 62, 63] (by decide +kernel) (by decide +kernel)
set_option maxRecDepth 20000 in
theorem gX10_setSupply_X10_noNode : GoodIn wsX10_setSupply (wsV RX10 136 RX10 yX10_noNode wsX10_noNode) := goodIn_app (goodIn_of _ (by decide +kernel)) ggX10_setSupply_X10_noNode
set_option maxRecDepth 20000 in
theorem ggX10_setSupply_X10_in : GoodIn wsX10_setSupply wsX10_in := goodIn_r _ [12] (by decide +kernel) (by decide +kernel)
set_option maxRecDepth 20000 in
theorem gX10_setSupply_X10_in : GoodIn wsX10_setSupply (va_wsS RX10 132 yX10_in wsX10_in) := goodIn_app (goodIn_of _ (by decide +kernel)) ggX10_setSupply_X10_in
set_option maxRecDepth 20000 in
theorem ggX10_setSupply_X10_isSlope : GoodIn wsX10_setSupply wsX10_isSlope := goodIn_r _ [15, 10, 11, 7, 12] (by decide +kernel) (by decide +kernel)
set_option maxRecDepth 20000 in
theorem gX10_setSupply_X10_isSlope : GoodIn wsX10_setSupply (va_wsS RX10 146 yX10_isSlope wsX10_isSlope) := goodIn_app (goodIn_of _ (by decide +kernel)) ggX10_setSupply_X10_isSlope
set_option maxRecDepth 20000 in
theorem ggX10_setMode_X10_in : GoodIn wsX10_setMode wsX10_in := goodIn_r _ [6] (by decide +kernel) (by decide +kernel)
set_option maxRecDepth 20000 in
theorem gX10_setMode_X10_in : GoodIn wsX10_setMode (va_wsS RX10 132 yX10_in wsX10_in) := goodIn_app (goodIn_of _ (by decide +kernel)) ggX10_setMode_X10_in
set_option maxRecDepth 20000 in
theorem ggX10_arc_X10_noArc : GoodIn wsX10_arc wsX10_noArc := goodIn_r _ [10, 11, 12, 13, 9, 14, 15, 16, 17, 18, 19, 20, 21, 22, 23, 24, 25, 26, 27, 28, 29, 30, 31, 32, 33, 34, 35, 36, 37, 38, 39, 40, 41, 42, 43, 44, 45, 46, 47, 48, 49, 50, 51, 52, 53, 54, 55, 56, 57, 58, 59, 60, 61, 62] (by decide +kernel) (by decide +kernel)
set_option maxRecDepth 20000 in
theorem gX10_arc_X10_noArc : GoodIn wsX10_arc (wsV RX10 149 RX10 yX10_noArc wsX10_noArc) := goodIn_app (goodIn_of _ (by decide +kernel)) ggX10_arc_X10_noArc
set_option maxRecDepth 20000 in
theorem ggX10_network_X10_sumOf : GoodIn wsX10_network wsX10_sumOf := goodIn_r _ [9, 1, 10, 11, 12, 13, 14, 15, 16, 17, 18, 19, 20, 21, 22, 23, 24, 25, 26, 27, 28, 29, 30, 31, 32, 33, 34, 35, 36, 37, 38, 39, 40, 41, 42, 43, 44, 45, 46, 47, 48, 49, 50, 51, 52, 53, 54, 55, 56, 57, 58, 59] (by decide +kernel) (by decide +kernel)
set_option maxRecDepth 20000 in
theorem gX10_network_X10_sumOf : GoodIn wsX10_network (wsV RX10 152 RX10 yX10_sumOf wsX10_sumOf) := goodIn_app (goodIn_of _ (by decide +kernel)) ggX10_network_X10_sumOf
set_option maxRecDepth 20000 in
theorem ggX10_lay_X10_size : GoodIn wsX10_lay wsX10_size := goodIn_r _ [26] (by decide +kernel) (by decide +kernel)
set_option maxRecDepth 20000 in
theorem gX10_lay_X10_size : GoodIn wsX10_lay (va_wsS RX10 108 yX10_size wsX10_size) := goodIn_app (goodIn_of _ (by decide +kernel)) ggX10_lay_X10_size
set_option maxRecDepth 20000 in
theorem ggX10_lay_X10_layDepths : GoodIn wsX10_lay wsX10_layDepths := goodIn_r _ [30, 31, 32, 16, 21, 8, 22, 4, 33, 34, 35, 36, 37, 38, 39, 40, 41, 42, 43, 44, 45, 46, 47, 48, 49, 50, 51, 52, 53, 54, 55, 56, 57, 58, 59, 60, 61, 62, 63, 64, 65, 66, 67, 68, 69, 70, 71, 72, 73, 74, 75, 76, 77, 78, 79, 80] (by decide +kernel) (by decide +kernel)
set_option maxRecDepth 20000 in
theorem gX10_lay_X10_layDepths : GoodIn wsX10_lay (wsV RX10 165 RX10 yX10_layDepths wsX10_layDepths) := goodIn_app (goodIn_of _ (by decide +kernel)) ggX10_lay_X10_layDepths
set_option maxRecDepth 20000 in
theorem ggX10_entering_X10_size : GoodIn wsX10_entering wsX10_size := goodIn_r _ [14] (by decide +kernel) (by decide +kernel)
set_option maxRecDepth 20000 in
theorem gX10_entering_X10_size : GoodIn wsX10_entering (va_wsS RX10 108 yX10_size wsX10_size) := goodIn_app (goodIn_of _ (by decide +kernel)) ggX10_entering_X10_size
set_option maxRecDepth 20000 in
theorem ggX10_tryAt_X10_isBalanced : GoodIn wsX10_tryAt wsX10_isBalanced := goodIn_r _ [7, 1, 8, 9, 10, 78, 79, 80, 81, 82, 83, 84, 85, 86, 87, 88, 89, 90, 91, 92, 93, 94, 95, 96, 97, 98, 99, 100, 101, 102, 103, 104, 105, 106, 107, 108, 109, 110, 111, 112, 113, 114, 115, 116, 117, 118, 119, 120, 121, 122, 123, 124, 125] (by decide +kernel) (by decide +kernel)
set_option maxRecDepth 20000 in
theorem gX10_tryAt_X10_isBalanced : GoodIn wsX10_tryAt (wsV RX10 193 RX10 yX10_isBalanced wsX10_isBalanced) := goodIn_app (goodIn_of _ (by decide +kernel)) ggX10_tryAt_X10_isBalanced
set_option maxRecDepth 20000 in
theorem ggX10_tryAt_X10_lay : GoodIn wsX10_tryAt wsX10_lay := goodIn_r _ [14, 15, 16, 17, 18, 19, 20, 21, 22, 8, 23, 24, 25, 26, 2, 27, 1, 28, 9, 10, 29, 30, 31, 32, 33, 6, 34, 35, 36, 37, 38, 39, 40, 78, 79, 80, 81, 82, 83, 84, 85, 86, 87, 88, 89, 90, 91, 92, 93, 94, 95, 96, 97, 98, 99, 100, 101, 102, 103, 104, 105, 106, 107, 108, 109, 110, 111, 112, 113, 114, 115, 116, 117, 118, 119, 120, 121, 122, 123, 124, 125] (by decide +kernel) (by decide +kernel)
set_option maxRecDepth 20000 in
theorem gX10_tryAt_X10_lay : GoodIn wsX10_tryAt (wsV RX10 197 RX10 yX10_lay wsX10_lay) := goodIn_app (goodIn_of _ (by decide +kernel)) ggX10_tryAt_X10_lay
set_option maxRecDepth 20000 in
theorem ggX10_tryAt_X10_entering : GoodIn wsX10_tryAt wsX10_entering := goodIn_r _ [44, 17, 27, 45, 46, 47, 6, 48, 22, 40, 18, 20, 32, 33, 34, 78, 79, 80, 81, 82, 83, 84, 85, 86, 87, 88, 89, 90, 91, 92, 93, 94, 95, 96, 97, 98, 99, 100, 101, 102, 103, 104, 105, 106, 107, 108, 109, 110, 111, 112, 113, 114, 115, 116, 117, 118, 119, 120, 121, 122, 123, 124, 125] (by decide +kernel) (by decide +kernel)
set_option maxRecDepth 20000 in
theorem gX10_tryAt_X10_entering : GoodIn wsX10_tryAt (wsV RX10 201 RX10 yX10_entering wsX10_entering) := goodIn_app (goodIn_of _ (by decide +kernel)) ggX10_tryAt_X10_entering
set_option maxRecDepth 20000 in
theorem ggX10_isParameter_X10_in : GoodIn wsX10_isParameter wsX10_in := goodIn_r _ [4] (by decide +kernel) (by decide +kernel)
set_option maxRecDepth 20000 in
theorem gX10_isParameter_X10_in : GoodIn wsX10_isParameter (va_wsS RX10 132 yX10_in wsX10_in) := goodIn_app (goodIn_of _ (by decide +kernel)) ggX10_isParameter_X10_in
set_option maxRecDepth 20000 in
theorem ggX10_solve_X10_isParameter : GoodIn wsX10_solve wsX10_isParameter := goodIn_r _ [8, 9, 10, 7, 11] (by decide +kernel) (by decide +kernel)
set_option maxRecDepth 20000 in
theorem gX10_solve_X10_isParameter : GoodIn wsX10_solve (va_wsS RX10 218 yX10_isParameter wsX10_isParameter) := goodIn_app (goodIn_of _ (by decide +kernel)) ggX10_solve_X10_isParameter
set_option maxRecDepth 20000 in
theorem ggX10_solve_X10_tryAt : GoodIn wsX10_solve wsX10_tryAt := goodIn_r _ [15, 16, 17, 18, 19, 20, 7, 21, 22, 23, 24, 25, 26, 27, 28, 29, 4, 30, 31, 32, 33, 34, 35, 36, 37, 38, 39, 40, 41, 42, 43, 44, 45, 46, 47, 48, 49, 50, 51, 52, 53, 54, 55, 56, 57, 58, 59, 60, 61, 62, 63, 64, 65, 66, 67, 68, 69, 70, 71, 72, 73, 74, 75, 76, 77, 78, 79, 80, 81, 82, 83, 84, 85, 86, 87, 88, 89, 90, 91, 92, 93, 94, 95, 96, 97, 98, 99, 100, 101, 102, 103, 104, 105, 106, 107, 108, 109, 110, 111, 112, 113, 114, 115, 116, 117, 118, 119, 120, 121, 122, 123, 124, 125, 126, 127, 128, 129, 130, 131, 132, 133, 134, 135, 136, 137, 138] (by decide +kernel) (by decide +kernel)
set_option maxRecDepth 20000 in
theorem gX10_solve_X10_tryAt : GoodIn wsX10_solve (wsV RX10 214 RX10 yX10_tryAt wsX10_tryAt) := goodIn_app (goodIn_of _ (by decide +kernel)) ggX10_solve_X10_tryAt
set_option maxRecDepth 20000 in
theorem ggX10_objective_X10_lost : GoodIn wsX10_objective wsX10_lost := goodIn_r _ [6, 7] (by decide +kernel) (by decide +kernel)
set_option maxRecDepth 20000 in
theorem gX10_objective_X10_lost : GoodIn wsX10_objective (va_wsS RX10 228 yX10_lost wsX10_lost) := goodIn_app (goodIn_of _ (by decide +kernel)) ggX10_objective_X10_lost
set_option maxRecDepth 20000 in
theorem ggX10_objective_X10_valueNow : GoodIn wsX10_objective wsX10_valueNow := goodIn_r _ [96, 32, 19, 37, 104, 105, 106, 107, 108, 109, 110, 111, 112, 113, 114, 115, 116, 117, 118, 119, 120, 121, 122, 123, 124, 125, 126, 127, 128, 129, 130, 131, 132, 133, 134, 135, 136, 137, 138, 139, 140, 141, 142, 143, 144, 145, 146, 147, 148, 149, 150, 151] (by decide +kernel) (by decide +kernel)
set_option maxRecDepth 20000 in
theorem gX10_objective_X10_valueNow : GoodIn wsX10_objective (wsV RX10 232 RX10 yX10_valueNow wsX10_valueNow) := goodIn_app (goodIn_of _ (by decide +kernel)) ggX10_objective_X10_valueNow
set_option maxRecDepth 20000 in
theorem ggX10_objective_X10_part : GoodIn wsX10_objective wsX10_part := goodIn_r _ [99, 100, 101, 102, 5, 103, 47, 48, 49] (by decide +kernel) (by decide +kernel)
set_option maxRecDepth 20000 in
theorem gX10_objective_X10_part : GoodIn wsX10_objective (va_wsS RX10 235 yX10_part wsX10_part) := goodIn_app (goodIn_of _ (by decide +kernel)) ggX10_objective_X10_part
set_option maxRecDepth 20000 in
theorem ggX10_flow_X10_noArc : GoodIn wsX10_flow wsX10_noArc := goodIn_r _ [9, 10, 11, 12, 8, 13, 107, 108, 109, 110, 111, 112, 113, 114, 115, 116, 117, 118, 119, 120, 121, 122, 123, 124, 125, 126, 127, 128, 129, 130, 131, 132, 133, 134, 135, 136, 137, 138, 139, 140, 141, 142, 143, 144, 145, 146, 147, 148, 149, 150, 151, 152, 153, 154] (by decide +kernel) (by decide +kernel)
set_option maxRecDepth 20000 in
theorem gX10_flow_X10_noArc : GoodIn wsX10_flow (wsV RX10 149 RX10 yX10_noArc wsX10_noArc) := goodIn_app (goodIn_of _ (by decide +kernel)) ggX10_flow_X10_noArc
set_option maxRecDepth 20000 in
theorem ggX10_flow_X10_lost : GoodIn wsX10_flow wsX10_lost := goodIn_r _ [16, 17] (by decide +kernel) (by decide +kernel)
set_option maxRecDepth 20000 in
theorem gX10_flow_X10_lost : GoodIn wsX10_flow (va_wsS RX10 228 yX10_lost wsX10_lost) := goodIn_app (goodIn_of _ (by decide +kernel)) ggX10_flow_X10_lost
set_option maxRecDepth 20000 in
theorem ggX10_flow_X10_part : GoodIn wsX10_flow wsX10_part := goodIn_r _ [102, 103, 104, 105, 8, 106, 54, 55, 56] (by decide +kernel) (by decide +kernel)
set_option maxRecDepth 20000 in
theorem gX10_flow_X10_part : GoodIn wsX10_flow (va_wsS RX10 235 yX10_part wsX10_part) := goodIn_app (goodIn_of _ (by decide +kernel)) ggX10_flow_X10_part
set_option maxRecDepth 20000 in
theorem ggX10_reducedCost_X10_noArc : GoodIn wsX10_reducedCost wsX10_noArc := goodIn_r _ [6, 7, 8, 9, 5, 10, 100, 101, 102, 103, 104, 105, 106, 107, 108, 109, 110, 111, 112, 113, 114, 115, 116, 117, 118, 119, 120, 121, 122, 123, 124, 125, 126, 127, 128, 129, 130, 131, 132, 133, 134, 135, 136, 137, 138, 139, 140, 141, 142, 143, 144, 145, 146, 147] (by decide +kernel) (by decide +kernel)
set_option maxRecDepth 20000 in
theorem gX10_reducedCost_X10_noArc : GoodIn wsX10_reducedCost (wsV RX10 149 RX10 yX10_noArc wsX10_noArc) := goodIn_app (goodIn_of _ (by decide +kernel)) ggX10_reducedCost_X10_noArc
set_option maxRecDepth 20000 in
theorem ggX10_reducedCost_X10_lost : GoodIn wsX10_reducedCost wsX10_lost := goodIn_r _ [13, 14] (by decide +kernel) (by decide +kernel)
set_option maxRecDepth 20000 in
theorem gX10_reducedCost_X10_lost : GoodIn wsX10_reducedCost (va_wsS RX10 228 yX10_lost wsX10_lost) := goodIn_app (goodIn_of _ (by decide +kernel)) ggX10_reducedCost_X10_lost
set_option maxRecDepth 20000 in
theorem ggX10_potential_X10_noNode : GoodIn wsX10_potential wsX10_noNode := goodIn_r _ [7, 8, 9, 10, 6, 11, 100, 101, 102, 103, 104, 105, 106, 107, 108, 109, 110, 111, 112, 113, 114, 115, 116, 117, 118, 119, 120, 121, 122, 123, 124, 125, 126, 127, 128, 129, 130, 131, 132, 133, 134, 135, 136, 137, 138, 139, 140, 141, 142, 143, 144, 145, 146, 147] (by decide +kernel) (by decide +kernel)
set_option maxRecDepth 20000 in
theorem gX10_potential_X10_noNode : GoodIn wsX10_potential (wsV RX10 136 RX10 yX10_noNode wsX10_noNode) := goodIn_app (goodIn_of _ (by decide +kernel)) ggX10_potential_X10_noNode
set_option maxRecDepth 20000 in
theorem ggX10_potential_X10_lost : GoodIn wsX10_potential wsX10_lost := goodIn_r _ [14, 15] (by decide +kernel) (by decide +kernel)
set_option maxRecDepth 20000 in
theorem gX10_potential_X10_lost : GoodIn wsX10_potential (va_wsS RX10 228 yX10_lost wsX10_lost) := goodIn_app (goodIn_of _ (by decide +kernel)) ggX10_potential_X10_lost
set_option maxRecDepth 20000 in
theorem ggX10_bound_X10_noArc : GoodIn wsX10_bound wsX10_noArc := goodIn_r _ [7, 8, 9, 10, 6, 11, 96, 97, 98, 99, 100, 101, 102, 103, 104, 105, 106, 107, 108, 109, 110, 111, 112, 113, 114, 115, 116, 117, 118, 119, 120, 121, 122, 123, 124, 125, 126, 127, 128, 129, 130, 131, 132, 133, 134, 135, 136, 137, 138, 139, 140, 141, 142, 143] (by decide +kernel) (by decide +kernel)
set_option maxRecDepth 20000 in
theorem gX10_bound_X10_noArc : GoodIn wsX10_bound (wsV RX10 149 RX10 yX10_noArc wsX10_noArc) := goodIn_app (goodIn_of _ (by decide +kernel)) ggX10_bound_X10_noArc
set_option maxRecDepth 20000 in
theorem ggX10_tree_X10_noNode : GoodIn wsX10_tree wsX10_noNode := goodIn_r _ [10, 2, 11, 12, 9, 13, 99, 100, 101, 102, 103, 104, 105, 106, 107, 108, 109, 110, 111, 112, 113, 114, 115, 116, 117, 118, 119, 120, 121, 122, 123, 124, 125, 126, 127, 128, 129, 130, 131, 132, 133, 134, 135, 136, 137, 138, 139, 140, 141, 142, 143, 144, 145, 146] (by decide +kernel) (by decide +kernel)
set_option maxRecDepth 20000 in
theorem gX10_tree_X10_noNode : GoodIn wsX10_tree (wsV RX10 136 RX10 yX10_noNode wsX10_noNode) := goodIn_app (goodIn_of _ (by decide +kernel)) ggX10_tree_X10_noNode
set_option maxRecDepth 20000 in
theorem ggX10_tree_X10_in : GoodIn wsX10_tree wsX10_in := goodIn_r _ [13] (by decide +kernel) (by decide +kernel)
set_option maxRecDepth 20000 in
theorem gX10_tree_X10_in : GoodIn wsX10_tree (va_wsS RX10 132 yX10_in wsX10_in) := goodIn_app (goodIn_of _ (by decide +kernel)) ggX10_tree_X10_in
set_option maxRecDepth 20000 in
theorem ggX10_limit_X10_lost : GoodIn wsX10_limit wsX10_lost := goodIn_r _ [11, 12] (by decide +kernel) (by decide +kernel)
set_option maxRecDepth 20000 in
theorem gX10_limit_X10_lost : GoodIn wsX10_limit (va_wsS RX10 228 yX10_lost wsX10_lost) := goodIn_app (goodIn_of _ (by decide +kernel)) ggX10_limit_X10_lost
set_option maxRecDepth 20000 in
theorem ggX10_limit_X10_part : GoodIn wsX10_limit wsX10_part := goodIn_r _ [119, 120, 121, 122, 10, 123, 53, 54, 55] (by decide +kernel) (by decide +kernel)
set_option maxRecDepth 20000 in
theorem gX10_limit_X10_part : GoodIn wsX10_limit (va_wsS RX10 235 yX10_part wsX10_part) := goodIn_app (goodIn_of _ (by decide +kernel)) ggX10_limit_X10_part
set_option maxRecDepth 20000 in
theorem ggX10_split_X10_know : GoodIn wsX10_split wsX10_know := goodIn_r _ [9, 10, 11, 114, 115, 116, 117, 118, 119, 120, 121, 122, 123, 124, 125, 126, 127, 128, 129, 130, 131, 132, 133, 134, 135, 136, 137, 138, 139, 140, 141, 142, 143, 144, 145, 146, 147, 148, 149, 150, 151, 152, 153, 154, 155, 156, 157, 158, 159, 160, 161] (by decide +kernel) (by decide +kernel)
set_option maxRecDepth 20000 in
theorem gX10_split_X10_know : GoodIn wsX10_split (wsV RX10 281 RX10 yX10_know wsX10_know) := goodIn_app (goodIn_of _ (by decide +kernel)) ggX10_split_X10_know
set_option maxRecDepth 20000 in
theorem ggX10_split_X10_part : GoodIn wsX10_split wsX10_part := goodIn_r _ [14, 15, 16, 17, 8, 18, 19, 20, 21] (by decide +kernel) (by decide +kernel)
set_option maxRecDepth 20000 in
theorem gX10_split_X10_part : GoodIn wsX10_split (va_wsS RX10 235 yX10_part wsX10_part) := goodIn_app (goodIn_of _ (by decide +kernel)) ggX10_split_X10_part
set_option maxRecDepth 20000 in
theorem ggX10_split_X10_tryAt : GoodIn wsX10_split wsX10_tryAt := goodIn_r _ [25, 26, 27, 28, 29, 30, 8, 31, 32, 33, 34, 35, 36, 37, 38, 39, 40, 41, 42, 43, 44, 45, 46, 47, 48, 49, 50, 51, 52, 53, 54, 55, 19, 20, 21, 56, 57, 58, 59, 60, 61, 62, 63, 64, 65, 66, 67, 68, 69, 70, 71, 72, 73, 74, 75, 76, 77, 78, 79, 80, 81, 82, 83, 84, 85, 86, 87, 88, 89, 90, 91, 92, 93, 94, 95, 96, 97, 98, 114, 115, 116, 117, 118, 119, 120, 121, 122, 123, 124, 125, 126, 127, 128, 129, 130, 131, 132, 133, 134, 135, 136, 137, 138, 139, 140, 141, 142, 143, 144, 145, 146, 147, 148, 149, 150, 151, 152, 153, 154, 155, 156, 157, 158, 159, 160, 161] (by decide +kernel) (by decide +kernel)
set_option maxRecDepth 20000 in
theorem gX10_split_X10_tryAt : GoodIn wsX10_split (wsV RX10 214 RX10 yX10_tryAt wsX10_tryAt) := goodIn_app (goodIn_of _ (by decide +kernel)) ggX10_split_X10_tryAt
set_option maxRecDepth 20000 in
theorem ggX10_split_X10_valueNow : GoodIn wsX10_split wsX10_valueNow := goodIn_r _ [102, 41, 27, 46, 114, 115, 116, 117, 118, 119, 120, 121, 122, 123, 124, 125, 126, 127, 128, 129, 130, 131, 132, 133, 134, 135, 136, 137, 138, 139, 140, 141, 142, 143, 144, 145, 146, 147, 148, 149, 150, 151, 152, 153, 154, 155, 156, 157, 158, 159, 160, 161] (by decide +kernel) (by decide +kernel)
set_option maxRecDepth 20000 in
theorem gX10_split_X10_valueNow : GoodIn wsX10_split (wsV RX10 232 RX10 yX10_valueNow wsX10_valueNow) := goodIn_app (goodIn_of _ (by decide +kernel)) ggX10_split_X10_valueNow
set_option maxRecDepth 20000 in
theorem ggX10_split_X10_layLine : GoodIn wsX10_split wsX10_layLine := goodIn_r _ [106, 107, 108, 41, 32, 27, 47, 48, 50, 26, 61, 33, 34, 66, 67, 68, 8, 69, 46, 42, 44, 114, 115, 116, 117, 118, 119, 120, 121, 122, 123, 124, 125, 126, 127, 128, 129, 130, 131, 132, 133, 134, 135, 136, 137, 138, 139, 140, 141, 142, 143, 144, 145, 146, 147, 148, 149, 150, 151, 152, 153, 154, 155, 156, 157, 158, 159, 160, 161] (by decide +kernel) (by decide +kernel)
set_option maxRecDepth 20000 in
theorem gX10_split_X10_layLine : GoodIn wsX10_split (wsV RX10 285 RX10 yX10_layLine wsX10_layLine) := goodIn_app (goodIn_of _ (by decide +kernel)) ggX10_split_X10_layLine
set_option maxRecDepth 20000 in
theorem ggX10_split_X10_insertPoint : GoodIn wsX10_split wsX10_insertPoint := goodIn_r _ [112, 113, 4, 3, 2, 1, 10, 11, 107, 108, 114, 115, 116, 117, 118, 119, 120, 121, 122, 123, 124, 125, 126, 127, 128, 129, 130, 131, 132, 133, 134, 135, 136, 137, 138, 139, 140, 141, 142, 143, 144, 145, 146, 147, 148, 149, 150, 151, 152, 153, 154, 155, 156, 157, 158, 159, 160, 161] (by decide +kernel) (by decide +kernel)
set_option maxRecDepth 20000 in
theorem gX10_split_X10_insertPoint : GoodIn wsX10_split (wsV RX10 288 RX10 yX10_insertPoint wsX10_insertPoint) := goodIn_app (goodIn_of _ (by decide +kernel)) ggX10_split_X10_insertPoint
set_option maxRecDepth 20000 in
theorem ggX10_findFunction_X10_isBalanced : GoodIn wsX10_findFunction wsX10_isBalanced := goodIn_r _ [7, 8, 9, 10, 11, 118, 119, 120, 121, 122, 123, 124, 125, 126, 127, 128, 129, 130, 131, 132, 133, 134, 135, 136, 137, 138, 139, 140, 141, 142, 143, 144, 145, 146, 147, 148, 149, 150, 151, 152, 153, 154, 155, 156, 157, 158, 159, 160, 161, 162, 163, 164, 165] (by decide +kernel) (by decide +kernel)
set_option maxRecDepth 20000 in
theorem gX10_findFunction_X10_isBalanced : GoodIn wsX10_findFunction (wsV RX10 193 RX10 yX10_isBalanced wsX10_isBalanced) := goodIn_app (goodIn_of _ (by decide +kernel)) ggX10_findFunction_X10_isBalanced
set_option maxRecDepth 20000 in
theorem ggX10_findFunction_X10_tryAt : GoodIn wsX10_findFunction wsX10_tryAt := goodIn_r _ [15, 8, 16, 3, 4, 5, 6, 7, 9, 10, 11, 17, 18, 19, 20, 21, 22, 23, 24, 25, 26, 27, 28, 29, 30, 31, 32, 33, 34, 35, 36, 37, 38, 39, 40, 41, 42, 43, 44, 45, 46, 47, 48, 49, 50, 51, 52, 53, 54, 55, 56, 57, 58, 59, 60, 61, 62, 63, 64, 65, 66, 67, 68, 69, 70, 71, 72, 73, 74, 75, 76, 77, 78, 79, 80, 81, 82, 83, 118, 119, 120, 121, 122, 123, 124, 125, 126, 127, 128, 129, 130, 131, 132, 133, 134, 135, 136, 137, 138, 139, 140, 141, 142, 143, 144, 145, 146, 147, 148, 149, 150, 151, 152, 153, 154, 155, 156, 157, 158, 159, 160, 161, 162, 163, 164, 165] (by decide +kernel) (by decide +kernel)
set_option maxRecDepth 20000 in
theorem gX10_findFunction_X10_tryAt : GoodIn wsX10_findFunction (wsV RX10 214 RX10 yX10_tryAt wsX10_tryAt) := goodIn_app (goodIn_of _ (by decide +kernel)) ggX10_findFunction_X10_tryAt
set_option maxRecDepth 20000 in
theorem ggX10_findFunction_X10_layLine : GoodIn wsX10_findFunction wsX10_layLine := goodIn_r _ [87, 88, 89, 23, 9, 16, 29, 30, 32, 8, 46, 10, 11, 51, 52, 53, 6, 54, 28, 24, 26, 118, 119, 120, 121, 122, 123, 124, 125, 126, 127, 128, 129, 130, 131, 132, 133, 134, 135, 136, 137, 138, 139, 140, 141, 142, 143, 144, 145, 146, 147, 148, 149, 150, 151, 152, 153, 154, 155, 156, 157, 158, 159, 160, 161, 162, 163, 164, 165] (by decide +kernel) (by decide +kernel)
set_option maxRecDepth 20000 in
theorem gX10_findFunction_X10_layLine : GoodIn wsX10_findFunction (wsV RX10 285 RX10 yX10_layLine wsX10_layLine) := goodIn_app (goodIn_of _ (by decide +kernel)) ggX10_findFunction_X10_layLine
set_option maxRecDepth 20000 in
theorem ggX10_findFunction_X10_insertPoint : GoodIn wsX10_findFunction wsX10_insertPoint := goodIn_r _ [93, 1, 94, 95, 96, 97, 2, 98, 88, 89, 118, 119, 120, 121, 122, 123, 124, 125, 126, 127, 128, 129, 130, 131, 132, 133, 134, 135, 136, 137, 138, 139, 140, 141, 142, 143, 144, 145, 146, 147, 148, 149, 150, 151, 152, 153, 154, 155, 156, 157, 158, 159, 160, 161, 162, 163, 164, 165] (by decide +kernel) (by decide +kernel)
set_option maxRecDepth 20000 in
theorem gX10_findFunction_X10_insertPoint : GoodIn wsX10_findFunction (wsV RX10 288 RX10 yX10_insertPoint wsX10_insertPoint) := goodIn_app (goodIn_of _ (by decide +kernel)) ggX10_findFunction_X10_insertPoint
set_option maxRecDepth 20000 in
theorem ggX10_findFunction_X10_split : GoodIn wsX10_findFunction wsX10_split := goodIn_r _ [102, 97, 96, 95, 94, 103, 104, 105, 6, 106, 2, 98, 107, 108, 109, 110, 111, 112, 113, 38, 39, 40, 12, 13, 14, 15, 8, 16, 3, 4, 5, 7, 9, 10, 11, 17, 18, 19, 20, 21, 22, 23, 24, 25, 26, 27, 28, 29, 30, 31, 32, 33, 34, 35, 36, 37, 41, 42, 43, 44, 45, 46, 47, 48, 49, 50, 51, 52, 53, 54, 55, 56, 57, 58, 59, 60, 61, 62, 63, 64, 65, 66, 67, 68, 69, 70, 71, 72, 73, 74, 75, 76, 77, 78, 79, 80, 81, 82, 83, 114, 115, 116, 117, 84, 85, 86, 87, 88, 89, 90, 91, 92, 93, 1, 118, 119, 120, 121, 122, 123, 124, 125, 126, 127, 128, 129, 130, 131, 132, 133, 134, 135, 136, 137, 138, 139, 140, 141, 142, 143, 144, 145, 146, 147, 148, 149, 150, 151, 152, 153, 154, 155, 156, 157, 158, 159, 160, 161, 162, 163, 164, 165] (by decide +kernel) (by decide +kernel)
set_option maxRecDepth 20000 in
theorem gX10_findFunction_X10_split : GoodIn wsX10_findFunction (wsV RX10 292 RX10 yX10_split wsX10_split) := goodIn_app (goodIn_of _ (by decide +kernel)) ggX10_findFunction_X10_split
set_option maxRecDepth 20000 in
theorem ggX10_isSpan_X10_in : GoodIn wsX10_isSpan wsX10_in := goodIn_r _ [4] (by decide +kernel) (by decide +kernel)
set_option maxRecDepth 20000 in
theorem gX10_isSpan_X10_in : GoodIn wsX10_isSpan (va_wsS RX10 132 yX10_in wsX10_in) := goodIn_app (goodIn_of _ (by decide +kernel)) ggX10_isSpan_X10_in
set_option maxRecDepth 20000 in
theorem ggX10_value_X10_isParameter : GoodIn wsX10_value wsX10_isParameter := goodIn_r _ [5, 6, 7, 4, 8] (by decide +kernel) (by decide +kernel)
set_option maxRecDepth 20000 in
theorem gX10_value_X10_isParameter : GoodIn wsX10_value (va_wsS RX10 218 yX10_isParameter wsX10_isParameter) := goodIn_app (goodIn_of _ (by decide +kernel)) ggX10_value_X10_isParameter
set_option maxRecDepth 20000 in
theorem ggX10_value_X10_tryAt : GoodIn wsX10_value wsX10_tryAt := goodIn_r _ [12, 13, 14, 15, 16, 17, 4, 18, 19, 20, 21, 22, 23, 24, 25, 1, 26, 27, 28, 29, 30, 31, 32, 33, 34, 35, 36, 37, 38, 39, 40, 41, 42, 43, 44, 45, 46, 47, 48, 49, 50, 51, 52, 53, 54, 55, 56, 57, 58, 59, 60, 61, 62, 63, 64, 65, 66, 67, 68, 69, 70, 71, 72, 73, 74, 75, 76, 77, 78, 79, 80, 81, 82, 83, 84, 85, 86, 87, 103, 104, 105, 106, 107, 108, 109, 110, 111, 112, 113, 114, 115, 116, 117, 118, 119, 120, 121, 122, 123, 124, 125, 126, 127, 128, 129, 130, 131, 132, 133, 134, 135, 136, 137, 138, 139, 140, 141, 142, 143, 144, 145, 146, 147, 148, 149, 150] (by decide +kernel) (by decide +kernel)
set_option maxRecDepth 20000 in
theorem gX10_value_X10_tryAt : GoodIn wsX10_value (wsV RX10 214 RX10 yX10_tryAt wsX10_tryAt) := goodIn_app (goodIn_of _ (by decide +kernel)) ggX10_value_X10_tryAt
set_option maxRecDepth 20000 in
theorem ggX10_value_X10_lost : GoodIn wsX10_value wsX10_lost := goodIn_r _ [90, 91] (by decide +kernel) (by decide +kernel)
set_option maxRecDepth 20000 in
theorem gX10_value_X10_lost : GoodIn wsX10_value (va_wsS RX10 228 yX10_lost wsX10_lost) := goodIn_app (goodIn_of _ (by decide +kernel)) ggX10_value_X10_lost
set_option maxRecDepth 20000 in
theorem ggX10_value_X10_valueNow : GoodIn wsX10_value wsX10_valueNow := goodIn_r _ [95, 27, 14, 32, 103, 104, 105, 106, 107, 108, 109, 110, 111, 112, 113, 114, 115, 116, 117, 118, 119, 120, 121, 122, 123, 124, 125, 126, 127, 128, 129, 130, 131, 132, 133, 134, 135, 136, 137, 138, 139, 140, 141, 142, 143, 144, 145, 146, 147, 148, 149, 150] (by decide +kernel) (by decide +kernel)
set_option maxRecDepth 20000 in
theorem gX10_value_X10_valueNow : GoodIn wsX10_value (wsV RX10 232 RX10 yX10_valueNow wsX10_valueNow) := goodIn_app (goodIn_of _ (by decide +kernel)) ggX10_value_X10_valueNow
set_option maxRecDepth 20000 in
theorem ggX10_value_X10_part : GoodIn wsX10_value wsX10_part := goodIn_r _ [98, 99, 100, 101, 4, 102, 42, 43, 44] (by decide +kernel) (by decide +kernel)
set_option maxRecDepth 20000 in
theorem gX10_value_X10_part : GoodIn wsX10_value (va_wsS RX10 235 yX10_part wsX10_part) := goodIn_app (goodIn_of _ (by decide +kernel)) ggX10_value_X10_part
set_option maxRecDepth 20000 in
theorem ggX10_problem_X10_isParameter : GoodIn wsX10_problem wsX10_isParameter := goodIn_r _ [4, 5, 6, 3, 7] (by decide +kernel) (by decide +kernel)
set_option maxRecDepth 20000 in
theorem gX10_problem_X10_isParameter : GoodIn wsX10_problem (va_wsS RX10 218 yX10_isParameter wsX10_isParameter) := goodIn_app (goodIn_of _ (by decide +kernel)) ggX10_problem_X10_isParameter
set_option maxRecDepth 20000 in
theorem ggX10_problem_X10_tryAt : GoodIn wsX10_problem wsX10_tryAt := goodIn_r _ [11, 12, 13, 14, 15, 16, 3, 17, 18, 19, 20, 21, 22, 23, 24, 25, 26, 27, 28, 29, 30, 31, 32, 33, 34, 35, 36, 37, 38, 39, 40, 41, 42, 43, 44, 45, 46, 47, 48, 49, 50, 51, 52, 53, 54, 55, 56, 57, 58, 59, 60, 61, 62, 63, 64, 65, 66, 67, 68, 69, 70, 71, 72, 73, 74, 75, 76, 77, 78, 79, 80, 81, 82, 83, 84, 85, 86, 87, 88, 89, 90, 91, 92, 93, 94, 95, 96, 97, 98, 99, 100, 101, 102, 103, 104, 105, 106, 107, 108, 109, 110, 111, 112, 113, 114, 115, 116, 117, 118, 119, 120, 121, 122, 123, 124, 125, 126, 127, 128, 129, 130, 131, 132, 133, 134, 135] (by decide +kernel) (by decide +kernel)
set_option maxRecDepth 20000 in
theorem gX10_problem_X10_tryAt : GoodIn wsX10_problem (wsV RX10 214 RX10 yX10_tryAt wsX10_tryAt) := goodIn_app (goodIn_of _ (by decide +kernel)) ggX10_problem_X10_tryAt
set_option maxRecDepth 20000 in
theorem ggX10_breakpoints_X10_isSpan : GoodIn wsX10_breakpoints wsX10_isSpan := goodIn_r _ [5, 6, 7, 4, 8] (by decide +kernel) (by decide +kernel)
set_option maxRecDepth 20000 in
theorem gX10_breakpoints_X10_isSpan : GoodIn wsX10_breakpoints (va_wsS RX10 295 yX10_isSpan wsX10_isSpan) := goodIn_app (goodIn_of _ (by decide +kernel)) ggX10_breakpoints_X10_isSpan
set_option maxRecDepth 20000 in
theorem ggX10_breakpoints_X10_findFunction : GoodIn wsX10_breakpoints wsX10_findFunction := goodIn_r _ [12, 1, 13, 14, 15, 16, 4, 17, 18, 19, 20, 21, 22, 23, 24, 25, 26, 27, 28, 29, 30, 31, 32, 33, 34, 35, 36, 37, 38, 39, 40, 41, 42, 43, 44, 45, 46, 47, 48, 49, 50, 51, 52, 53, 54, 55, 56, 57, 58, 59, 60, 61, 62, 63, 64, 65, 66, 67, 68, 69, 70, 71, 72, 73, 74, 75, 76, 77, 78, 79, 80, 81, 82, 83, 84, 85, 86, 87, 88, 89, 90, 91, 92, 93, 94, 95, 96, 97, 98, 99, 100, 101, 102, 103, 104, 105, 106, 107, 108, 109, 110, 111, 112, 113, 114, 115, 116, 117, 118, 119, 120, 121, 122, 123, 124, 125, 126, 127, 132, 133, 134, 135, 136, 137, 138, 139, 140, 141, 142, 143, 144, 145, 146, 147, 148, 149, 150, 151, 152, 153, 154, 155, 156, 157, 158, 159, 160, 161, 162, 163, 164, 165, 166, 167, 168, 169, 170, 171, 172, 173, 174, 175, 176, 177, 178, 179] (by decide +kernel) (by decide +kernel)
set_option maxRecDepth 20000 in
theorem gX10_breakpoints_X10_findFunction : GoodIn wsX10_breakpoints (wsV RX10 298 RX10 yX10_findFunction wsX10_findFunction) := goodIn_app (goodIn_of _ (by decide +kernel)) ggX10_breakpoints_X10_findFunction
set_option maxRecDepth 20000 in
theorem ggX10_breakpoints_X10_isBend : GoodIn wsX10_breakpoints wsX10_isBend := goodIn_r _ [131, 1, 108, 132, 133, 134, 135, 136, 137, 138, 139, 140, 141, 142, 143, 144, 145, 146, 147, 148, 149, 150, 151, 152, 153, 154, 155, 156, 157, 158, 159, 160, 161, 162, 163, 164, 165, 166, 167, 168, 169, 170, 171, 172, 173, 174, 175, 176, 177, 178, 179] (by decide +kernel) (by decide +kernel)
set_option maxRecDepth 20000 in
theorem gX10_breakpoints_X10_isBend : GoodIn wsX10_breakpoints (wsV RX10 301 RX10 yX10_isBend wsX10_isBend) := goodIn_app (goodIn_of _ (by decide +kernel)) ggX10_breakpoints_X10_isBend
set_option maxRecDepth 20000 in
theorem ggX10_breakpoint_X10_isSpan : GoodIn wsX10_breakpoint wsX10_isSpan := goodIn_r _ [7, 8, 9, 6, 10] (by decide +kernel) (by decide +kernel)
set_option maxRecDepth 20000 in
theorem gX10_breakpoint_X10_isSpan : GoodIn wsX10_breakpoint (va_wsS RX10 295 yX10_isSpan wsX10_isSpan) := goodIn_app (goodIn_of _ (by decide +kernel)) ggX10_breakpoint_X10_isSpan
set_option maxRecDepth 20000 in
theorem ggX10_breakpoint_X10_findFunction : GoodIn wsX10_breakpoint wsX10_findFunction := goodIn_r _ [14, 1, 15, 16, 17, 18, 6, 19, 20, 21, 22, 23, 24, 25, 26, 27, 28, 29, 30, 31, 32, 33, 34, 35, 36, 37, 38, 39, 40, 41, 42, 43, 44, 45, 46, 47, 48, 49, 50, 51, 52, 53, 54, 55, 56, 57, 58, 59, 60, 61, 62, 63, 64, 65, 66, 67, 68, 69, 70, 71, 72, 73, 74, 75, 76, 77, 78, 79, 80, 81, 82, 83, 84, 85, 86, 87, 88, 89, 90, 91, 92, 93, 94, 95, 96, 97, 98, 99, 100, 101, 102, 103, 104, 105, 3, 2, 106, 107, 108, 109, 110, 111, 112, 113, 114, 115, 116, 117, 118, 119, 120, 121, 122, 123, 124, 125, 126, 127, 136, 137, 138, 139, 140, 141, 142, 143, 144, 145, 146, 147, 148, 149, 150, 151, 152, 153, 154, 155, 156, 157, 158, 159, 160, 161, 162, 163, 164, 165, 166, 167, 168, 169, 170, 171, 172, 173, 174, 175, 176, 177, 178, 179, 180, 181, 182, 183] (by decide +kernel) (by decide +kernel)
set_option maxRecDepth 20000 in
theorem gX10_breakpoint_X10_findFunction : GoodIn wsX10_breakpoint (wsV RX10 298 RX10 yX10_findFunction wsX10_findFunction) := goodIn_app (goodIn_of _ (by decide +kernel)) ggX10_breakpoint_X10_findFunction
set_option maxRecDepth 20000 in
theorem ggX10_breakpoint_X10_lost : GoodIn wsX10_breakpoint wsX10_lost := goodIn_r _ [130, 131] (by decide +kernel) (by decide +kernel)
set_option maxRecDepth 20000 in
theorem gX10_breakpoint_X10_lost : GoodIn wsX10_breakpoint (va_wsS RX10 228 yX10_lost wsX10_lost) := goodIn_app (goodIn_of _ (by decide +kernel)) ggX10_breakpoint_X10_lost
set_option maxRecDepth 20000 in
theorem ggX10_breakpoint_X10_isBend : GoodIn wsX10_breakpoint wsX10_isBend := goodIn_r _ [135, 1, 108, 136, 137, 138, 139, 140, 141, 142, 143, 144, 145, 146, 147, 148, 149, 150, 151, 152, 153, 154, 155, 156, 157, 158, 159, 160, 161, 162, 163, 164, 165, 166, 167, 168, 169, 170, 171, 172, 173, 174, 175, 176, 177, 178, 179, 180, 181, 182, 183] (by decide +kernel) (by decide +kernel)
set_option maxRecDepth 20000 in
theorem gX10_breakpoint_X10_isBend : GoodIn wsX10_breakpoint (wsV RX10 301 RX10 yX10_isBend wsX10_isBend) := goodIn_app (goodIn_of _ (by decide +kernel)) ggX10_breakpoint_X10_isBend
set_option maxRecDepth 20000 in
theorem ggX10_slope_X10_isSpan : GoodIn wsX10_slope wsX10_isSpan := goodIn_r _ [6, 7, 8, 5, 9] (by decide +kernel) (by decide +kernel)
set_option maxRecDepth 20000 in
theorem gX10_slope_X10_isSpan : GoodIn wsX10_slope (va_wsS RX10 295 yX10_isSpan wsX10_isSpan) := goodIn_app (goodIn_of _ (by decide +kernel)) ggX10_slope_X10_isSpan
set_option maxRecDepth 20000 in
theorem ggX10_slope_X10_findFunction : GoodIn wsX10_slope wsX10_findFunction := goodIn_r _ [13, 1, 14, 15, 16, 17, 5, 18, 19, 20, 21, 22, 23, 24, 25, 26, 27, 28, 29, 30, 31, 32, 33, 34, 35, 36, 37, 38, 39, 40, 41, 42, 43, 44, 45, 46, 47, 48, 49, 50, 51, 52, 53, 54, 55, 56, 57, 58, 59, 60, 61, 62, 63, 64, 65, 66, 67, 68, 69, 70, 71, 72, 73, 74, 75, 76, 77, 78, 79, 80, 81, 82, 83, 84, 85, 86, 87, 88, 89, 90, 91, 92, 93, 94, 95, 96, 97, 98, 99, 100, 101, 102, 103, 104, 105, 106, 107, 108, 2, 109, 110, 111, 112, 113, 114, 115, 116, 117, 118, 119, 120, 121, 122, 123, 124, 125, 126, 127, 136, 137, 138, 139, 140, 141, 142, 143, 144, 145, 146, 147, 148, 149, 150, 151, 152, 153, 154, 155, 156, 157, 158, 159, 160, 161, 162, 163, 164, 165, 166, 167, 168, 169, 170, 171, 172, 173, 174, 175, 176, 177, 178, 179, 180, 181, 182, 183] (by decide +kernel) (by decide +kernel)
set_option maxRecDepth 20000 in
theorem gX10_slope_X10_findFunction : GoodIn wsX10_slope (wsV RX10 298 RX10 yX10_findFunction wsX10_findFunction) := goodIn_app (goodIn_of _ (by decide +kernel)) ggX10_slope_X10_findFunction
set_option maxRecDepth 20000 in
theorem ggX10_slope_X10_lost : GoodIn wsX10_slope wsX10_lost := goodIn_r _ [130, 131] (by decide +kernel) (by decide +kernel)
set_option maxRecDepth 20000 in
theorem gX10_slope_X10_lost : GoodIn wsX10_slope (va_wsS RX10 228 yX10_lost wsX10_lost) := goodIn_app (goodIn_of _ (by decide +kernel)) ggX10_slope_X10_lost
set_option maxRecDepth 20000 in
theorem ggX10_slope_X10_isBend : GoodIn wsX10_slope wsX10_isBend := goodIn_r _ [135, 1, 2, 136, 137, 138, 139, 140, 141, 142, 143, 144, 145, 146, 147, 148, 149, 150, 151, 152, 153, 154, 155, 156, 157, 158, 159, 160, 161, 162, 163, 164, 165, 166, 167, 168, 169, 170, 171, 172, 173, 174, 175, 176, 177, 178, 179, 180, 181, 182, 183] (by decide +kernel) (by decide +kernel)
set_option maxRecDepth 20000 in
theorem gX10_slope_X10_isBend : GoodIn wsX10_slope (wsV RX10 301 RX10 yX10_isBend wsX10_isBend) := goodIn_app (goodIn_of _ (by decide +kernel)) ggX10_slope_X10_isBend
set_option maxRecDepth 20000 in
theorem ggJxc12de_init_da8c8_Jxa1e45_init_da8c8 : GoodIn wsJxc12de_init_da8c8 wsJxa1e45_init_da8c8 := goodIn_r _ [5, 6, 7, 8] (by decide +kernel) (by decide +kernel)
set_option maxRecDepth 20000 in
theorem gJxc12de_init_da8c8_Jxa1e45_init_da8c8 : GoodIn wsJxc12de_init_da8c8 (wsJxa1e45_init_da8c8) := ggJxc12de_init_da8c8_Jxa1e45_init_da8c8
set_option maxRecDepth 20000 in
theorem ggJx4a65c_init_da8c8_Jxc12de_init_da8c8 : GoodIn wsJx4a65c_init_da8c8 wsJxc12de_init_da8c8 := goodIn_r _ [6, 7, 8, 9, 10, 11, 12, 13, 14, 15, 16, 17] (by decide +kernel) (by decide +kernel)
set_option maxRecDepth 20000 in
theorem gJx4a65c_init_da8c8_Jxc12de_init_da8c8 : GoodIn wsJx4a65c_init_da8c8 (wsJxc12de_init_da8c8) := ggJx4a65c_init_da8c8_Jxc12de_init_da8c8
set_option maxRecDepth 20000 in
theorem ggJx4a65c_grow_d5877_Jx4a65c_grow_92f84 : GoodIn wsJx4a65c_grow_d5877 wsJx4a65c_grow_92f84 := goodIn_r _ [6, 7, 8, 9, 10, 11, 12, 13, 14, 15, 16, 17, 18, 19, 20, 21, 22, 23, 24, 25, 26, 27, 28, 29, 30, 31, 32, 33, 34, 35, 36, 37, 38, 39, 40, 41, 42, 43, 44, 45] (by decide +kernel) (by decide +kernel)
set_option maxRecDepth 20000 in
theorem gJx4a65c_grow_d5877_Jx4a65c_grow_92f84 : GoodIn wsJx4a65c_grow_d5877 (wsV RJx4a65c 69 RJx4a65c yJx4a65c_grow_92f84 wsJx4a65c_grow_92f84) := goodIn_app (goodIn_of _ (by decide +kernel)) ggJx4a65c_grow_d5877_Jx4a65c_grow_92f84
set_option maxRecDepth 20000 in
theorem ggJx4a65c_get_915e3_J15_checkIndex_7cf53 : GoodIn wsJx4a65c_get_915e3 wsJ15_checkIndex_7cf53 := goodIn_r _ [5, 6, 7, 8, 9] (by decide +kernel) (by decide +kernel)
set_option maxRecDepth 20000 in
theorem gJx4a65c_get_915e3_J15_checkIndex_7cf53 : GoodIn wsJx4a65c_get_915e3 (va_wsS RJx4a65c 118 yJ15_checkIndex_7cf53 wsJ15_checkIndex_7cf53) := goodIn_app (goodIn_of _ (by decide +kernel)) ggJx4a65c_get_915e3_J15_checkIndex_7cf53
set_option maxRecDepth 20000 in
theorem ggJx4a65c_get_915e3_Jx4a65c_elementData_915e3 : GoodIn wsJx4a65c_get_915e3 wsJx4a65c_elementData_915e3 := goodIn_r _ [14, 15, 16, 17, 18] (by decide +kernel) (by decide +kernel)
set_option maxRecDepth 20000 in
theorem gJx4a65c_get_915e3_Jx4a65c_elementData_915e3 : GoodIn wsJx4a65c_get_915e3 (wsV RJx4a65c 123 RJx4a65c yJx4a65c_elementData_915e3 wsJx4a65c_elementData_915e3) := goodIn_app (goodIn_of _ (by decide +kernel)) ggJx4a65c_get_915e3_Jx4a65c_elementData_915e3
set_option maxRecDepth 20000 in
theorem ggJx4a65c_add_72be8_Jx4a65c_grow_d5877 : GoodIn wsJx4a65c_add_72be8 wsJx4a65c_grow_d5877 := goodIn_r _ [6, 1, 7, 8, 9, 5, 10, 11, 12, 13, 14, 15, 16, 17, 18, 19, 20, 21, 22, 23, 24, 25, 26, 27, 28, 29, 30, 31, 32, 33, 34, 35, 36, 37, 38, 39, 40, 41, 42, 43, 44, 45, 46, 47, 48, 49] (by decide +kernel) (by decide +kernel)
set_option maxRecDepth 20000 in
theorem gJx4a65c_add_72be8_Jx4a65c_grow_d5877 : GoodIn wsJx4a65c_add_72be8 (wsV RJx4a65c 129 RJx4a65c yJx4a65c_grow_d5877 wsJx4a65c_grow_d5877) := goodIn_app (goodIn_of _ (by decide +kernel)) ggJx4a65c_add_72be8_Jx4a65c_grow_d5877
set_option maxRecDepth 20000 in
theorem ggJx4a65c_add_9ea2d_Jx4a65c_add_72be8 : GoodIn wsJx4a65c_add_9ea2d wsJx4a65c_add_72be8 := goodIn_r _ [9, 4, 10, 11, 12, 8, 13, 14, 15, 16, 17, 3, 18, 19, 20, 21, 22, 23, 24, 25, 26, 27, 28, 29, 30, 31, 32, 33, 34, 35, 36, 37, 38, 39, 40, 41, 42, 43, 44, 45, 46, 47, 48, 49, 50, 51, 52, 53, 54, 55] (by decide +kernel) (by decide +kernel)
set_option maxRecDepth 20000 in
theorem gJx4a65c_add_9ea2d_Jx4a65c_add_72be8 : GoodIn wsJx4a65c_add_9ea2d (wsV RJx4a65c 131 RJx4a65c yJx4a65c_add_72be8 wsJx4a65c_add_72be8) := goodIn_app (goodIn_of _ (by decide +kernel)) ggJx4a65c_add_9ea2d_Jx4a65c_add_72be8
set_option maxRecDepth 20000 in
theorem ggJ15_checkIndex_7cf53_J3_checkIndex_8e157 : GoodIn wsJ15_checkIndex_7cf53 wsJ3_checkIndex_8e157 := goodIn_r _ [4] (by decide +kernel) (by decide +kernel)
set_option maxRecDepth 20000 in
theorem gJ15_checkIndex_7cf53_J3_checkIndex_8e157 : GoodIn wsJ15_checkIndex_7cf53 (va_wsS RJ15 105 yJ3_checkIndex_8e157 wsJ3_checkIndex_8e157) := goodIn_app (goodIn_of _ (by decide +kernel)) ggJ15_checkIndex_7cf53_J3_checkIndex_8e157
end
section
theorem dX0_init_0 : decode cX0_init 0 = .ok (.aload_n 0, 1) := by decide +kernel
theorem dX0_init_1 : decode cX0_init 1 = .ok (.invokespecial 3, 3) := by decide +kernel
theorem dX0_init_4 : decode cX0_init 4 = .ok (.aload_n 0, 1) := by decide +kernel
theorem dX0_init_5 : decode cX0_init 5 = .ok (.bipush 28, 2) := by decide +kernel
theorem dX0_init_7 : decode cX0_init 7 = .ok (.newarray .int, 2) := by decide +kernel
theorem dX0_init_9 : decode cX0_init 9 = .ok (.putfield 9, 3) := by decide +kernel
theorem dX0_init_12 : decode cX0_init 12 = .ok (.aload_n 0, 1) := by decide +kernel
theorem dX0_init_13 : decode cX0_init 13 = .ok (.bipush 28, 2) := by decide +kernel
theorem dX0_init_15 : decode cX0_init 15 = .ok (.newarray .int, 2) := by decide +kernel
theorem dX0_init_17 : decode cX0_init 17 = .ok (.putfield 15, 3) := by decide +kernel
theorem dX0_init_20 : decode cX0_init 20 = .ok (.aload_n 0, 1) := by decide +kernel
theorem dX0_init_21 : decode cX0_init 21 = .ok (.bipush 28, 2) := by decide +kernel
theorem dX0_init_23 : decode cX0_init 23 = .ok (.newarray .long, 2) := by decide +kernel
theorem dX0_init_25 : decode cX0_init 25 = .ok (.putfield 18, 3) := by decide +kernel
theorem dX0_init_28 : decode cX0_init 28 = .ok (.aload_n 0, 1) := by decide +kernel
theorem dX0_init_29 : decode cX0_init 29 = .ok (.bipush 28, 2) := by decide +kernel
theorem dX0_init_31 : decode cX0_init 31 = .ok (.newarray .long, 2) := by decide +kernel
theorem dX0_init_33 : decode cX0_init 33 = .ok (.putfield 22, 3) := by decide +kernel
theorem dX0_init_36 : decode cX0_init 36 = .ok (.aload_n 0, 1) := by decide +kernel
theorem dX0_init_37 : decode cX0_init 37 = .ok (.bipush 28, 2) := by decide +kernel
theorem dX0_init_39 : decode cX0_init 39 = .ok (.newarray .long, 2) := by decide +kernel
theorem dX0_init_41 : decode cX0_init 41 = .ok (.putfield 25, 3) := by decide +kernel
theorem dX0_init_44 : decode cX0_init 44 = .ok (.aload_n 0, 1) := by decide +kernel
theorem dX0_init_45 : decode cX0_init 45 = .ok (.bipush 28, 2) := by decide +kernel
theorem dX0_init_47 : decode cX0_init 47 = .ok (.newarray .int, 2) := by decide +kernel
theorem dX0_init_49 : decode cX0_init 49 = .ok (.putfield 28, 3) := by decide +kernel
theorem dX0_init_52 : decode cX0_init 52 = .ok (.return_, 1) := by decide +kernel
theorem dX0_load_0 : decode cX0_load 0 = .ok (.aload_n 0, 1) := by decide +kernel
theorem dX0_load_1 : decode cX0_load 1 = .ok (.aload_n 1, 1) := by decide +kernel
theorem dX0_load_2 : decode cX0_load 2 = .ok (.getfield 31, 3) := by decide +kernel
theorem dX0_load_5 : decode cX0_load 5 = .ok (.putfield 37, 3) := by decide +kernel
theorem dX0_load_8 : decode cX0_load 8 = .ok (.aload_n 0, 1) := by decide +kernel
theorem dX0_load_9 : decode cX0_load 9 = .ok (.aload_n 1, 1) := by decide +kernel
theorem dX0_load_10 : decode cX0_load 10 = .ok (.getfield 38, 3) := by decide +kernel
theorem dX0_load_13 : decode cX0_load 13 = .ok (.putfield 41, 3) := by decide +kernel
theorem dX0_load_16 : decode cX0_load 16 = .ok (.lconst 0, 1) := by decide +kernel
theorem dX0_load_17 : decode cX0_load 17 = .ok (.lstore 6, 2) := by decide +kernel
theorem dX0_load_19 : decode cX0_load 19 = .ok (.iconst 0, 1) := by decide +kernel
theorem dX0_load_20 : decode cX0_load 20 = .ok (.istore 8, 2) := by decide +kernel
theorem dX0_load_22 : decode cX0_load 22 = .ok (.iload 8, 2) := by decide +kernel
theorem dX0_load_24 : decode cX0_load 24 = .ok (.aload_n 0, 1) := by decide +kernel
theorem dX0_load_25 : decode cX0_load 25 = .ok (.getfield 41, 3) := by decide +kernel
theorem dX0_load_28 : decode cX0_load 28 = .ok (.if_icmp .ge 101, 3) := by decide +kernel
theorem dX0_load_31 : decode cX0_load 31 = .ok (.aload_n 0, 1) := by decide +kernel
theorem dX0_load_32 : decode cX0_load 32 = .ok (.getfield 9, 3) := by decide +kernel
theorem dX0_load_35 : decode cX0_load 35 = .ok (.iload 8, 2) := by decide +kernel
theorem dX0_load_37 : decode cX0_load 37 = .ok (.aload_n 1, 1) := by decide +kernel
theorem dX0_load_38 : decode cX0_load 38 = .ok (.getfield 44, 3) := by decide +kernel
theorem dX0_load_41 : decode cX0_load 41 = .ok (.iload 8, 2) := by decide +kernel
theorem dX0_load_43 : decode cX0_load 43 = .ok (.iaload, 1) := by decide +kernel
theorem dX0_load_44 : decode cX0_load 44 = .ok (.iastore, 1) := by decide +kernel
theorem dX0_load_45 : decode cX0_load 45 = .ok (.aload_n 0, 1) := by decide +kernel
theorem dX0_load_46 : decode cX0_load 46 = .ok (.getfield 15, 3) := by decide +kernel
theorem dX0_load_49 : decode cX0_load 49 = .ok (.iload 8, 2) := by decide +kernel
theorem dX0_load_51 : decode cX0_load 51 = .ok (.aload_n 1, 1) := by decide +kernel
theorem dX0_load_52 : decode cX0_load 52 = .ok (.getfield 45, 3) := by decide +kernel
theorem dX0_load_55 : decode cX0_load 55 = .ok (.iload 8, 2) := by decide +kernel
theorem dX0_load_57 : decode cX0_load 57 = .ok (.iaload, 1) := by decide +kernel
theorem dX0_load_58 : decode cX0_load 58 = .ok (.iastore, 1) := by decide +kernel
theorem dX0_load_59 : decode cX0_load 59 = .ok (.aload_n 0, 1) := by decide +kernel
theorem dX0_load_60 : decode cX0_load 60 = .ok (.getfield 18, 3) := by decide +kernel
theorem dX0_load_63 : decode cX0_load 63 = .ok (.iload 8, 2) := by decide +kernel
theorem dX0_load_65 : decode cX0_load 65 = .ok (.aload_n 1, 1) := by decide +kernel
theorem dX0_load_66 : decode cX0_load 66 = .ok (.iload 8, 2) := by decide +kernel
theorem dX0_load_68 : decode cX0_load 68 = .ok (.lload 4, 2) := by decide +kernel
theorem dX0_load_70 : decode cX0_load 70 = .ok (.invokevirtual 46, 3) := by decide +kernel
theorem dX0_load_73 : decode cX0_load 73 = .ok (.lastore, 1) := by decide +kernel
theorem dX0_load_74 : decode cX0_load 74 = .ok (.aload_n 0, 1) := by decide +kernel
theorem dX0_load_75 : decode cX0_load 75 = .ok (.getfield 22, 3) := by decide +kernel
theorem dX0_load_78 : decode cX0_load 78 = .ok (.iload 8, 2) := by decide +kernel
theorem dX0_load_80 : decode cX0_load 80 = .ok (.aload_n 1, 1) := by decide +kernel
theorem dX0_load_81 : decode cX0_load 81 = .ok (.iload 8, 2) := by decide +kernel
theorem dX0_load_83 : decode cX0_load 83 = .ok (.lload_n 2, 1) := by decide +kernel
theorem dX0_load_84 : decode cX0_load 84 = .ok (.lload 4, 2) := by decide +kernel
theorem dX0_load_86 : decode cX0_load 86 = .ok (.invokevirtual 50, 3) := by decide +kernel
theorem dX0_load_89 : decode cX0_load 89 = .ok (.lastore, 1) := by decide +kernel
theorem dX0_load_90 : decode cX0_load 90 = .ok (.aload_n 0, 1) := by decide +kernel
theorem dX0_load_91 : decode cX0_load 91 = .ok (.getfield 25, 3) := by decide +kernel
theorem dX0_load_94 : decode cX0_load 94 = .ok (.iload 8, 2) := by decide +kernel
theorem dX0_load_96 : decode cX0_load 96 = .ok (.lconst 0, 1) := by decide +kernel
theorem dX0_load_97 : decode cX0_load 97 = .ok (.lastore, 1) := by decide +kernel
theorem dX0_load_98 : decode cX0_load 98 = .ok (.aload_n 0, 1) := by decide +kernel
theorem dX0_load_99 : decode cX0_load 99 = .ok (.getfield 28, 3) := by decide +kernel
theorem dX0_load_102 : decode cX0_load 102 = .ok (.iload 8, 2) := by decide +kernel
theorem dX0_load_104 : decode cX0_load 104 = .ok (.iconst 0, 1) := by decide +kernel
theorem dX0_load_105 : decode cX0_load 105 = .ok (.iastore, 1) := by decide +kernel
theorem dX0_load_106 : decode cX0_load 106 = .ok (.lload 6, 2) := by decide +kernel
theorem dX0_load_108 : decode cX0_load 108 = .ok (.aload_n 0, 1) := by decide +kernel
theorem dX0_load_109 : decode cX0_load 109 = .ok (.getfield 22, 3) := by decide +kernel
theorem dX0_load_112 : decode cX0_load 112 = .ok (.iload 8, 2) := by decide +kernel
theorem dX0_load_114 : decode cX0_load 114 = .ok (.laload, 1) := by decide +kernel
theorem dX0_load_115 : decode cX0_load 115 = .ok (.invokestatic 54, 3) := by decide +kernel
theorem dX0_load_118 : decode cX0_load 118 = .ok (.invokestatic 60, 3) := by decide +kernel
theorem dX0_load_121 : decode cX0_load 121 = .ok (.lstore 6, 2) := by decide +kernel
theorem dX0_load_123 : decode cX0_load 123 = .ok (.iinc 8 1, 3) := by decide +kernel
theorem dX0_load_126 : decode cX0_load 126 = .ok (.goto (-104), 3) := by decide +kernel
theorem dX0_load_129 : decode cX0_load 129 = .ok (.iconst 0, 1) := by decide +kernel
theorem dX0_load_130 : decode cX0_load 130 = .ok (.istore 8, 2) := by decide +kernel
theorem dX0_load_132 : decode cX0_load 132 = .ok (.iload 8, 2) := by decide +kernel
theorem dX0_load_134 : decode cX0_load 134 = .ok (.aload_n 0, 1) := by decide +kernel
theorem dX0_load_135 : decode cX0_load 135 = .ok (.getfield 37, 3) := by decide +kernel
theorem dX0_load_138 : decode cX0_load 138 = .ok (.if_icmp .ge 34, 3) := by decide +kernel
theorem dX0_load_141 : decode cX0_load 141 = .ok (.aload_n 0, 1) := by decide +kernel
theorem dX0_load_142 : decode cX0_load 142 = .ok (.iload 8, 2) := by decide +kernel
theorem dX0_load_144 : decode cX0_load 144 = .ok (.aload_n 1, 1) := by decide +kernel
theorem dX0_load_145 : decode cX0_load 145 = .ok (.iload 8, 2) := by decide +kernel
theorem dX0_load_147 : decode cX0_load 147 = .ok (.lload_n 2, 1) := by decide +kernel
theorem dX0_load_148 : decode cX0_load 148 = .ok (.lload 4, 2) := by decide +kernel
theorem dX0_load_150 : decode cX0_load 150 = .ok (.invokevirtual 64, 3) := by decide +kernel
theorem dX0_load_153 : decode cX0_load 153 = .ok (.lconst 1, 1) := by decide +kernel
theorem dX0_load_154 : decode cX0_load 154 = .ok (.aload_n 0, 1) := by decide +kernel
theorem dX0_load_155 : decode cX0_load 155 = .ok (.getfield 37, 3) := by decide +kernel
theorem dX0_load_158 : decode cX0_load 158 = .ok (.i2l, 1) := by decide +kernel
theorem dX0_load_159 : decode cX0_load 159 = .ok (.lload 6, 2) := by decide +kernel
theorem dX0_load_161 : decode cX0_load 161 = .ok (.lmul, 1) := by decide +kernel
theorem dX0_load_162 : decode cX0_load 162 = .ok (.ladd, 1) := by decide +kernel
theorem dX0_load_163 : decode cX0_load 163 = .ok (.invokevirtual 67, 3) := by decide +kernel
theorem dX0_load_166 : decode cX0_load 166 = .ok (.iinc 8 1, 3) := by decide +kernel
theorem dX0_load_169 : decode cX0_load 169 = .ok (.goto (-37), 3) := by decide +kernel
theorem dX0_load_172 : decode cX0_load 172 = .ok (.return_, 1) := by decide +kernel
theorem dX0_loadArtificial_0 : decode cX0_loadArtificial 0 = .ok (.bipush 20, 2) := by decide +kernel
theorem dX0_loadArtificial_2 : decode cX0_loadArtificial 2 = .ok (.iload_n 1, 1) := by decide +kernel
theorem dX0_loadArtificial_3 : decode cX0_loadArtificial 3 = .ok (.iadd, 1) := by decide +kernel
theorem dX0_loadArtificial_4 : decode cX0_loadArtificial 4 = .ok (.istore 6, 2) := by decide +kernel
theorem dX0_loadArtificial_6 : decode cX0_loadArtificial 6 = .ok (.aload_n 0, 1) := by decide +kernel
theorem dX0_loadArtificial_7 : decode cX0_loadArtificial 7 = .ok (.getfield 9, 3) := by decide +kernel
theorem dX0_loadArtificial_10 : decode cX0_loadArtificial 10 = .ok (.iload 6, 2) := by decide +kernel
theorem dX0_loadArtificial_12 : decode cX0_loadArtificial 12 = .ok (.lload_n 2, 1) := by decide +kernel
theorem dX0_loadArtificial_13 : decode cX0_loadArtificial 13 = .ok (.lconst 0, 1) := by decide +kernel
theorem dX0_loadArtificial_14 : decode cX0_loadArtificial 14 = .ok (.lcmp, 1) := by decide +kernel
theorem dX0_loadArtificial_15 : decode cX0_loadArtificial 15 = .ok (.ifCond .lt 7, 3) := by decide +kernel
theorem dX0_loadArtificial_18 : decode cX0_loadArtificial 18 = .ok (.iload_n 1, 1) := by decide +kernel
theorem dX0_loadArtificial_19 : decode cX0_loadArtificial 19 = .ok (.goto 7, 3) := by decide +kernel
theorem dX0_loadArtificial_22 : decode cX0_loadArtificial 22 = .ok (.aload_n 0, 1) := by decide +kernel
theorem dX0_loadArtificial_23 : decode cX0_loadArtificial 23 = .ok (.getfield 37, 3) := by decide +kernel
theorem dX0_loadArtificial_26 : decode cX0_loadArtificial 26 = .ok (.iastore, 1) := by decide +kernel
theorem dX0_loadArtificial_27 : decode cX0_loadArtificial 27 = .ok (.aload_n 0, 1) := by decide +kernel
theorem dX0_loadArtificial_28 : decode cX0_loadArtificial 28 = .ok (.getfield 15, 3) := by decide +kernel
theorem dX0_loadArtificial_31 : decode cX0_loadArtificial 31 = .ok (.iload 6, 2) := by decide +kernel
theorem dX0_loadArtificial_33 : decode cX0_loadArtificial 33 = .ok (.lload_n 2, 1) := by decide +kernel
theorem dX0_loadArtificial_34 : decode cX0_loadArtificial 34 = .ok (.lconst 0, 1) := by decide +kernel
theorem dX0_loadArtificial_35 : decode cX0_loadArtificial 35 = .ok (.lcmp, 1) := by decide +kernel
theorem dX0_loadArtificial_36 : decode cX0_loadArtificial 36 = .ok (.ifCond .lt 10, 3) := by decide +kernel
theorem dX0_loadArtificial_39 : decode cX0_loadArtificial 39 = .ok (.aload_n 0, 1) := by decide +kernel
theorem dX0_loadArtificial_40 : decode cX0_loadArtificial 40 = .ok (.getfield 37, 3) := by decide +kernel
theorem dX0_loadArtificial_43 : decode cX0_loadArtificial 43 = .ok (.goto 4, 3) := by decide +kernel
theorem dX0_loadArtificial_46 : decode cX0_loadArtificial 46 = .ok (.iload_n 1, 1) := by decide +kernel
theorem dX0_loadArtificial_47 : decode cX0_loadArtificial 47 = .ok (.iastore, 1) := by decide +kernel
theorem dX0_loadArtificial_48 : decode cX0_loadArtificial 48 = .ok (.aload_n 0, 1) := by decide +kernel
theorem dX0_loadArtificial_49 : decode cX0_loadArtificial 49 = .ok (.getfield 18, 3) := by decide +kernel
theorem dX0_loadArtificial_52 : decode cX0_loadArtificial 52 = .ok (.iload 6, 2) := by decide +kernel
theorem dX0_loadArtificial_54 : decode cX0_loadArtificial 54 = .ok (.ldc2_w 71, 3) := by decide +kernel
theorem dX0_loadArtificial_57 : decode cX0_loadArtificial 57 = .ok (.lastore, 1) := by decide +kernel
theorem dX0_loadArtificial_58 : decode cX0_loadArtificial 58 = .ok (.aload_n 0, 1) := by decide +kernel
theorem dX0_loadArtificial_59 : decode cX0_loadArtificial 59 = .ok (.getfield 22, 3) := by decide +kernel
theorem dX0_loadArtificial_62 : decode cX0_loadArtificial 62 = .ok (.iload 6, 2) := by decide +kernel
theorem dX0_loadArtificial_64 : decode cX0_loadArtificial 64 = .ok (.lload 4, 2) := by decide +kernel
theorem dX0_loadArtificial_66 : decode cX0_loadArtificial 66 = .ok (.lastore, 1) := by decide +kernel
theorem dX0_loadArtificial_67 : decode cX0_loadArtificial 67 = .ok (.aload_n 0, 1) := by decide +kernel
theorem dX0_loadArtificial_68 : decode cX0_loadArtificial 68 = .ok (.getfield 25, 3) := by decide +kernel
theorem dX0_loadArtificial_71 : decode cX0_loadArtificial 71 = .ok (.iload 6, 2) := by decide +kernel
theorem dX0_loadArtificial_73 : decode cX0_loadArtificial 73 = .ok (.lload_n 2, 1) := by decide +kernel
theorem dX0_loadArtificial_74 : decode cX0_loadArtificial 74 = .ok (.invokestatic 54, 3) := by decide +kernel
theorem dX0_loadArtificial_77 : decode cX0_loadArtificial 77 = .ok (.lastore, 1) := by decide +kernel
theorem dX0_loadArtificial_78 : decode cX0_loadArtificial 78 = .ok (.aload_n 0, 1) := by decide +kernel
theorem dX0_loadArtificial_79 : decode cX0_loadArtificial 79 = .ok (.getfield 28, 3) := by decide +kernel
theorem dX0_loadArtificial_82 : decode cX0_loadArtificial 82 = .ok (.iload 6, 2) := by decide +kernel
theorem dX0_loadArtificial_84 : decode cX0_loadArtificial 84 = .ok (.iconst 2, 1) := by decide +kernel
theorem dX0_loadArtificial_85 : decode cX0_loadArtificial 85 = .ok (.iastore, 1) := by decide +kernel
theorem dX0_loadArtificial_86 : decode cX0_loadArtificial 86 = .ok (.return_, 1) := by decide +kernel
theorem dX0_hasArtificialFlow_0 : decode cX0_hasArtificialFlow 0 = .ok (.iconst 0, 1) := by decide +kernel
theorem dX0_hasArtificialFlow_1 : decode cX0_hasArtificialFlow 1 = .ok (.istore_n 1, 1) := by decide +kernel
theorem dX0_hasArtificialFlow_2 : decode cX0_hasArtificialFlow 2 = .ok (.iload_n 1, 1) := by decide +kernel
theorem dX0_hasArtificialFlow_3 : decode cX0_hasArtificialFlow 3 = .ok (.aload_n 0, 1) := by decide +kernel
theorem dX0_hasArtificialFlow_4 : decode cX0_hasArtificialFlow 4 = .ok (.getfield 37, 3) := by decide +kernel
theorem dX0_hasArtificialFlow_7 : decode cX0_hasArtificialFlow 7 = .ok (.if_icmp .ge 25, 3) := by decide +kernel
theorem dX0_hasArtificialFlow_10 : decode cX0_hasArtificialFlow 10 = .ok (.aload_n 0, 1) := by decide +kernel
theorem dX0_hasArtificialFlow_11 : decode cX0_hasArtificialFlow 11 = .ok (.getfield 25, 3) := by decide +kernel
theorem dX0_hasArtificialFlow_14 : decode cX0_hasArtificialFlow 14 = .ok (.bipush 20, 2) := by decide +kernel
theorem dX0_hasArtificialFlow_16 : decode cX0_hasArtificialFlow 16 = .ok (.iload_n 1, 1) := by decide +kernel
theorem dX0_hasArtificialFlow_17 : decode cX0_hasArtificialFlow 17 = .ok (.iadd, 1) := by decide +kernel
theorem dX0_hasArtificialFlow_18 : decode cX0_hasArtificialFlow 18 = .ok (.laload, 1) := by decide +kernel
theorem dX0_hasArtificialFlow_19 : decode cX0_hasArtificialFlow 19 = .ok (.lconst 0, 1) := by decide +kernel
theorem dX0_hasArtificialFlow_20 : decode cX0_hasArtificialFlow 20 = .ok (.lcmp, 1) := by decide +kernel
theorem dX0_hasArtificialFlow_21 : decode cX0_hasArtificialFlow 21 = .ok (.ifCond .le 5, 3) := by decide +kernel
theorem dX0_hasArtificialFlow_24 : decode cX0_hasArtificialFlow 24 = .ok (.iconst 1, 1) := by decide +kernel
theorem dX0_hasArtificialFlow_25 : decode cX0_hasArtificialFlow 25 = .ok (.ireturn, 1) := by decide +kernel
theorem dX0_hasArtificialFlow_26 : decode cX0_hasArtificialFlow 26 = .ok (.iinc 1 1, 3) := by decide +kernel
theorem dX0_hasArtificialFlow_29 : decode cX0_hasArtificialFlow 29 = .ok (.goto (-27), 3) := by decide +kernel
theorem dX0_hasArtificialFlow_32 : decode cX0_hasArtificialFlow 32 = .ok (.iconst 0, 1) := by decide +kernel
theorem dX0_hasArtificialFlow_33 : decode cX0_hasArtificialFlow 33 = .ok (.ireturn, 1) := by decide +kernel
theorem dX0_totalCost_0 : decode cX0_totalCost 0 = .ok (.lconst 0, 1) := by decide +kernel
theorem dX0_totalCost_1 : decode cX0_totalCost 1 = .ok (.lstore_n 1, 1) := by decide +kernel
theorem dX0_totalCost_2 : decode cX0_totalCost 2 = .ok (.iconst 0, 1) := by decide +kernel
theorem dX0_totalCost_3 : decode cX0_totalCost 3 = .ok (.istore_n 3, 1) := by decide +kernel
theorem dX0_totalCost_4 : decode cX0_totalCost 4 = .ok (.iload_n 3, 1) := by decide +kernel
theorem dX0_totalCost_5 : decode cX0_totalCost 5 = .ok (.aload_n 0, 1) := by decide +kernel
theorem dX0_totalCost_6 : decode cX0_totalCost 6 = .ok (.getfield 41, 3) := by decide +kernel
theorem dX0_totalCost_9 : decode cX0_totalCost 9 = .ok (.if_icmp .ge 25, 3) := by decide +kernel
theorem dX0_totalCost_12 : decode cX0_totalCost 12 = .ok (.lload_n 1, 1) := by decide +kernel
theorem dX0_totalCost_13 : decode cX0_totalCost 13 = .ok (.aload_n 0, 1) := by decide +kernel
theorem dX0_totalCost_14 : decode cX0_totalCost 14 = .ok (.getfield 25, 3) := by decide +kernel
theorem dX0_totalCost_17 : decode cX0_totalCost 17 = .ok (.iload_n 3, 1) := by decide +kernel
theorem dX0_totalCost_18 : decode cX0_totalCost 18 = .ok (.laload, 1) := by decide +kernel
theorem dX0_totalCost_19 : decode cX0_totalCost 19 = .ok (.aload_n 0, 1) := by decide +kernel
theorem dX0_totalCost_20 : decode cX0_totalCost 20 = .ok (.getfield 22, 3) := by decide +kernel
theorem dX0_totalCost_23 : decode cX0_totalCost 23 = .ok (.iload_n 3, 1) := by decide +kernel
theorem dX0_totalCost_24 : decode cX0_totalCost 24 = .ok (.laload, 1) := by decide +kernel
theorem dX0_totalCost_25 : decode cX0_totalCost 25 = .ok (.lmul, 1) := by decide +kernel
theorem dX0_totalCost_26 : decode cX0_totalCost 26 = .ok (.ladd, 1) := by decide +kernel
theorem dX0_totalCost_27 : decode cX0_totalCost 27 = .ok (.lstore_n 1, 1) := by decide +kernel
theorem dX0_totalCost_28 : decode cX0_totalCost 28 = .ok (.iinc 3 1, 3) := by decide +kernel
theorem dX0_totalCost_31 : decode cX0_totalCost 31 = .ok (.goto (-27), 3) := by decide +kernel
theorem dX0_totalCost_34 : decode cX0_totalCost 34 = .ok (.lload_n 1, 1) := by decide +kernel
theorem dX0_totalCost_35 : decode cX0_totalCost 35 = .ok (.lreturn, 1) := by decide +kernel
theorem dX1_init_0 : decode cX1_init 0 = .ok (.aload_n 0, 1) := by decide +kernel
theorem dX1_init_1 : decode cX1_init 1 = .ok (.invokespecial 3, 3) := by decide +kernel
theorem dX1_init_4 : decode cX1_init 4 = .ok (.aload_n 0, 1) := by decide +kernel
theorem dX1_init_5 : decode cX1_init 5 = .ok (.new 9, 3) := by decide +kernel
theorem dX1_init_8 : decode cX1_init 8 = .ok (.dup, 1) := by decide +kernel
theorem dX1_init_9 : decode cX1_init 9 = .ok (.invokespecial 11, 3) := by decide +kernel
theorem dX1_init_12 : decode cX1_init 12 = .ok (.putfield 12, 3) := by decide +kernel
theorem dX1_init_15 : decode cX1_init 15 = .ok (.aload_n 0, 1) := by decide +kernel
theorem dX1_init_16 : decode cX1_init 16 = .ok (.new 9, 3) := by decide +kernel
theorem dX1_init_19 : decode cX1_init 19 = .ok (.dup, 1) := by decide +kernel
theorem dX1_init_20 : decode cX1_init 20 = .ok (.invokespecial 11, 3) := by decide +kernel
theorem dX1_init_23 : decode cX1_init 23 = .ok (.putfield 18, 3) := by decide +kernel
theorem dX1_init_26 : decode cX1_init 26 = .ok (.aload_n 0, 1) := by decide +kernel
theorem dX1_init_27 : decode cX1_init 27 = .ok (.new 9, 3) := by decide +kernel
theorem dX1_init_30 : decode cX1_init 30 = .ok (.dup, 1) := by decide +kernel
theorem dX1_init_31 : decode cX1_init 31 = .ok (.invokespecial 11, 3) := by decide +kernel
theorem dX1_init_34 : decode cX1_init 34 = .ok (.putfield 21, 3) := by decide +kernel
theorem dX1_init_37 : decode cX1_init 37 = .ok (.aload_n 0, 1) := by decide +kernel
theorem dX1_init_38 : decode cX1_init 38 = .ok (.new 24, 3) := by decide +kernel
theorem dX1_init_41 : decode cX1_init 41 = .ok (.dup, 1) := by decide +kernel
theorem dX1_init_42 : decode cX1_init 42 = .ok (.invokespecial 26, 3) := by decide +kernel
theorem dX1_init_45 : decode cX1_init 45 = .ok (.putfield 27, 3) := by decide +kernel
theorem dX1_init_48 : decode cX1_init 48 = .ok (.aload_n 0, 1) := by decide +kernel
theorem dX1_init_49 : decode cX1_init 49 = .ok (.new 31, 3) := by decide +kernel
theorem dX1_init_52 : decode cX1_init 52 = .ok (.dup, 1) := by decide +kernel
theorem dX1_init_53 : decode cX1_init 53 = .ok (.invokespecial 33, 3) := by decide +kernel
theorem dX1_init_56 : decode cX1_init 56 = .ok (.putfield 34, 3) := by decide +kernel
theorem dX1_init_59 : decode cX1_init 59 = .ok (.return_, 1) := by decide +kernel
theorem dX1_trace_0 : decode cX1_trace 0 = .ok (.aload_n 0, 1) := by decide +kernel
theorem dX1_trace_1 : decode cX1_trace 1 = .ok (.getfield 38, 3) := by decide +kernel
theorem dX1_trace_4 : decode cX1_trace 4 = .ok (.ifCond .eq 25, 3) := by decide +kernel
theorem dX1_trace_7 : decode cX1_trace 7 = .ok (.aload_n 0, 1) := by decide +kernel
theorem dX1_trace_8 : decode cX1_trace 8 = .ok (.getfield 42, 3) := by decide +kernel
theorem dX1_trace_11 : decode cX1_trace 11 = .ok (.iload_n 3, 1) := by decide +kernel
theorem dX1_trace_12 : decode cX1_trace 12 = .ok (.if_icmp .ne 17, 3) := by decide +kernel
theorem dX1_trace_15 : decode cX1_trace 15 = .ok (.aload_n 0, 1) := by decide +kernel
theorem dX1_trace_16 : decode cX1_trace 16 = .ok (.getfield 46, 3) := by decide +kernel
theorem dX1_trace_19 : decode cX1_trace 19 = .ok (.iload 4, 2) := by decide +kernel
theorem dX1_trace_21 : decode cX1_trace 21 = .ok (.if_icmp .ne 8, 3) := by decide +kernel
theorem dX1_trace_24 : decode cX1_trace 24 = .ok (.aload_n 0, 1) := by decide +kernel
theorem dX1_trace_25 : decode cX1_trace 25 = .ok (.getfield 49, 3) := by decide +kernel
theorem dX1_trace_28 : decode cX1_trace 28 = .ok (.ireturn, 1) := by decide +kernel
theorem dX1_trace_29 : decode cX1_trace 29 = .ok (.aload_n 0, 1) := by decide +kernel
theorem dX1_trace_30 : decode cX1_trace 30 = .ok (.iconst 1, 1) := by decide +kernel
theorem dX1_trace_31 : decode cX1_trace 31 = .ok (.putfield 38, 3) := by decide +kernel
theorem dX1_trace_34 : decode cX1_trace 34 = .ok (.aload_n 0, 1) := by decide +kernel
theorem dX1_trace_35 : decode cX1_trace 35 = .ok (.iload_n 3, 1) := by decide +kernel
theorem dX1_trace_36 : decode cX1_trace 36 = .ok (.putfield 42, 3) := by decide +kernel
theorem dX1_trace_39 : decode cX1_trace 39 = .ok (.aload_n 0, 1) := by decide +kernel
theorem dX1_trace_40 : decode cX1_trace 40 = .ok (.iload 4, 2) := by decide +kernel
theorem dX1_trace_42 : decode cX1_trace 42 = .ok (.putfield 46, 3) := by decide +kernel
theorem dX1_trace_45 : decode cX1_trace 45 = .ok (.aload_n 0, 1) := by decide +kernel
theorem dX1_trace_46 : decode cX1_trace 46 = .ok (.aload_n 0, 1) := by decide +kernel
theorem dX1_trace_47 : decode cX1_trace 47 = .ok (.aload_n 1, 1) := by decide +kernel
theorem dX1_trace_48 : decode cX1_trace 48 = .ok (.aload_n 2, 1) := by decide +kernel
theorem dX1_trace_49 : decode cX1_trace 49 = .ok (.invokevirtual 52, 3) := by decide +kernel
theorem dX1_trace_52 : decode cX1_trace 52 = .ok (.putfield 49, 3) := by decide +kernel
theorem dX1_trace_55 : decode cX1_trace 55 = .ok (.iconst 0, 1) := by decide +kernel
theorem dX1_trace_56 : decode cX1_trace 56 = .ok (.istore 5, 2) := by decide +kernel
theorem dX1_trace_58 : decode cX1_trace 58 = .ok (.aload_n 0, 1) := by decide +kernel
theorem dX1_trace_59 : decode cX1_trace 59 = .ok (.getfield 49, 3) := by decide +kernel
theorem dX1_trace_62 : decode cX1_trace 62 = .ok (.ifCond .ne 74, 3) := by decide +kernel
theorem dX1_trace_65 : decode cX1_trace 65 = .ok (.aload_n 0, 1) := by decide +kernel
theorem dX1_trace_66 : decode cX1_trace 66 = .ok (.getfield 56, 3) := by decide +kernel
theorem dX1_trace_69 : decode cX1_trace 69 = .ok (.ifCond .le 67, 3) := by decide +kernel
theorem dX1_trace_72 : decode cX1_trace 72 = .ok (.iload 5, 2) := by decide +kernel
theorem dX1_trace_74 : decode cX1_trace 74 = .ok (.ldc 59, 2) := by decide +kernel
theorem dX1_trace_76 : decode cX1_trace 76 = .ok (.if_icmp .ge 60, 3) := by decide +kernel
theorem dX1_trace_79 : decode cX1_trace 79 = .ok (.aload_n 0, 1) := by decide +kernel
theorem dX1_trace_80 : decode cX1_trace 80 = .ok (.getfield 34, 3) := by decide +kernel
theorem dX1_trace_83 : decode cX1_trace 83 = .ok (.aload_n 0, 1) := by decide +kernel
theorem dX1_trace_84 : decode cX1_trace 84 = .ok (.getfield 56, 3) := by decide +kernel
theorem dX1_trace_87 : decode cX1_trace 87 = .ok (.iconst 1, 1) := by decide +kernel
theorem dX1_trace_88 : decode cX1_trace 88 = .ok (.isub, 1) := by decide +kernel
theorem dX1_trace_89 : decode cX1_trace 89 = .ok (.invokevirtual 60, 3) := by decide +kernel
theorem dX1_trace_92 : decode cX1_trace 92 = .ok (.checkcast 24, 3) := by decide +kernel
theorem dX1_trace_95 : decode cX1_trace 95 = .ok (.astore 6, 2) := by decide +kernel
theorem dX1_trace_97 : decode cX1_trace 97 = .ok (.aload_n 0, 1) := by decide +kernel
theorem dX1_trace_98 : decode cX1_trace 98 = .ok (.getfield 27, 3) := by decide +kernel
theorem dX1_trace_101 : decode cX1_trace 101 = .ok (.aload 6, 2) := by decide +kernel
theorem dX1_trace_103 : decode cX1_trace 103 = .ok (.invokevirtual 64, 3) := by decide +kernel
theorem dX1_trace_106 : decode cX1_trace 106 = .ok (.ifCond .eq 16, 3) := by decide +kernel
theorem dX1_trace_109 : decode cX1_trace 109 = .ok (.aload_n 0, 1) := by decide +kernel
theorem dX1_trace_110 : decode cX1_trace 110 = .ok (.dup, 1) := by decide +kernel
theorem dX1_trace_111 : decode cX1_trace 111 = .ok (.getfield 56, 3) := by decide +kernel
theorem dX1_trace_114 : decode cX1_trace 114 = .ok (.iconst 1, 1) := by decide +kernel
theorem dX1_trace_115 : decode cX1_trace 115 = .ok (.isub, 1) := by decide +kernel
theorem dX1_trace_116 : decode cX1_trace 116 = .ok (.putfield 56, 3) := by decide +kernel
theorem dX1_trace_119 : decode cX1_trace 119 = .ok (.goto 11, 3) := by decide +kernel
theorem dX1_trace_122 : decode cX1_trace 122 = .ok (.aload_n 0, 1) := by decide +kernel
theorem dX1_trace_123 : decode cX1_trace 123 = .ok (.aload_n 1, 1) := by decide +kernel
theorem dX1_trace_124 : decode cX1_trace 124 = .ok (.aload_n 2, 1) := by decide +kernel
theorem dX1_trace_125 : decode cX1_trace 125 = .ok (.aload 6, 2) := by decide +kernel
theorem dX1_trace_127 : decode cX1_trace 127 = .ok (.invokevirtual 68, 3) := by decide +kernel
theorem dX1_trace_130 : decode cX1_trace 130 = .ok (.iinc 5 1, 3) := by decide +kernel
theorem dX1_trace_133 : decode cX1_trace 133 = .ok (.goto (-75), 3) := by decide +kernel
theorem dX1_trace_136 : decode cX1_trace 136 = .ok (.aload_n 0, 1) := by decide +kernel
theorem dX1_trace_137 : decode cX1_trace 137 = .ok (.getfield 49, 3) := by decide +kernel
theorem dX1_trace_140 : decode cX1_trace 140 = .ok (.ireturn, 1) := by decide +kernel
theorem dX1_begin_0 : decode cX1_begin 0 = .ok (.aload_n 1, 1) := by decide +kernel
theorem dX1_begin_1 : decode cX1_begin 1 = .ok (.aload_n 0, 1) := by decide +kernel
theorem dX1_begin_2 : decode cX1_begin 2 = .ok (.getfield 42, 3) := by decide +kernel
theorem dX1_begin_5 : decode cX1_begin 5 = .ok (.i2l, 1) := by decide +kernel
theorem dX1_begin_6 : decode cX1_begin 6 = .ok (.lconst 1, 1) := by decide +kernel
theorem dX1_begin_7 : decode cX1_begin 7 = .ok (.invokevirtual 72, 3) := by decide +kernel
theorem dX1_begin_10 : decode cX1_begin 10 = .ok (.ifCond .eq 16, 3) := by decide +kernel
theorem dX1_begin_13 : decode cX1_begin 13 = .ok (.aload_n 1, 1) := by decide +kernel
theorem dX1_begin_14 : decode cX1_begin 14 = .ok (.aload_n 0, 1) := by decide +kernel
theorem dX1_begin_15 : decode cX1_begin 15 = .ok (.getfield 46, 3) := by decide +kernel
theorem dX1_begin_18 : decode cX1_begin 18 = .ok (.i2l, 1) := by decide +kernel
theorem dX1_begin_19 : decode cX1_begin 19 = .ok (.lconst 1, 1) := by decide +kernel
theorem dX1_begin_20 : decode cX1_begin 20 = .ok (.invokevirtual 72, 3) := by decide +kernel
theorem dX1_begin_23 : decode cX1_begin 23 = .ok (.ifCond .ne 7, 3) := by decide +kernel
theorem dX1_begin_26 : decode cX1_begin 26 = .ok (.sipush (-10003), 3) := by decide +kernel
theorem dX1_begin_29 : decode cX1_begin 29 = .ok (.ireturn, 1) := by decide +kernel
theorem dX1_begin_30 : decode cX1_begin 30 = .ok (.aload_n 0, 1) := by decide +kernel
theorem dX1_begin_31 : decode cX1_begin 31 = .ok (.iconst 0, 1) := by decide +kernel
theorem dX1_begin_32 : decode cX1_begin 32 = .ok (.putfield 56, 3) := by decide +kernel
theorem dX1_begin_35 : decode cX1_begin 35 = .ok (.aload_n 0, 1) := by decide +kernel
theorem dX1_begin_36 : decode cX1_begin 36 = .ok (.getfield 27, 3) := by decide +kernel
theorem dX1_begin_39 : decode cX1_begin 39 = .ok (.aload_n 1, 1) := by decide +kernel
theorem dX1_begin_40 : decode cX1_begin 40 = .ok (.aload_n 2, 1) := by decide +kernel
theorem dX1_begin_41 : decode cX1_begin 41 = .ok (.aload_n 0, 1) := by decide +kernel
theorem dX1_begin_42 : decode cX1_begin 42 = .ok (.getfield 42, 3) := by decide +kernel
theorem dX1_begin_45 : decode cX1_begin 45 = .ok (.i2l, 1) := by decide +kernel
theorem dX1_begin_46 : decode cX1_begin 46 = .ok (.lconst 1, 1) := by decide +kernel
theorem dX1_begin_47 : decode cX1_begin 47 = .ok (.invokevirtual 78, 3) := by decide +kernel
theorem dX1_begin_50 : decode cX1_begin 50 = .ok (.ifCond .eq 21, 3) := by decide +kernel
theorem dX1_begin_53 : decode cX1_begin 53 = .ok (.aload_n 0, 1) := by decide +kernel
theorem dX1_begin_54 : decode cX1_begin 54 = .ok (.invokevirtual 82, 3) := by decide +kernel
theorem dX1_begin_57 : decode cX1_begin 57 = .ok (.aload_n 1, 1) := by decide +kernel
theorem dX1_begin_58 : decode cX1_begin 58 = .ok (.aload_n 2, 1) := by decide +kernel
theorem dX1_begin_59 : decode cX1_begin 59 = .ok (.aload_n 0, 1) := by decide +kernel
theorem dX1_begin_60 : decode cX1_begin 60 = .ok (.getfield 46, 3) := by decide +kernel
theorem dX1_begin_63 : decode cX1_begin 63 = .ok (.i2l, 1) := by decide +kernel
theorem dX1_begin_64 : decode cX1_begin 64 = .ok (.lconst 1, 1) := by decide +kernel
theorem dX1_begin_65 : decode cX1_begin 65 = .ok (.invokevirtual 78, 3) := by decide +kernel
theorem dX1_begin_68 : decode cX1_begin 68 = .ok (.ifCond .ne 7, 3) := by decide +kernel
theorem dX1_begin_71 : decode cX1_begin 71 = .ok (.sipush (-10004), 3) := by decide +kernel
theorem dX1_begin_74 : decode cX1_begin 74 = .ok (.ireturn, 1) := by decide +kernel
theorem dX1_begin_75 : decode cX1_begin 75 = .ok (.aload_n 0, 1) := by decide +kernel
theorem dX1_begin_76 : decode cX1_begin 76 = .ok (.getfield 12, 3) := by decide +kernel
theorem dX1_begin_79 : decode cX1_begin 79 = .ok (.invokevirtual 86, 3) := by decide +kernel
theorem dX1_begin_82 : decode cX1_begin 82 = .ok (.aload_n 0, 1) := by decide +kernel
theorem dX1_begin_83 : decode cX1_begin 83 = .ok (.getfield 18, 3) := by decide +kernel
theorem dX1_begin_86 : decode cX1_begin 86 = .ok (.invokevirtual 86, 3) := by decide +kernel
theorem dX1_begin_89 : decode cX1_begin 89 = .ok (.aload_n 0, 1) := by decide +kernel
theorem dX1_begin_90 : decode cX1_begin 90 = .ok (.getfield 21, 3) := by decide +kernel
theorem dX1_begin_93 : decode cX1_begin 93 = .ok (.invokevirtual 86, 3) := by decide +kernel
theorem dX1_begin_96 : decode cX1_begin 96 = .ok (.aload_n 0, 1) := by decide +kernel
theorem dX1_begin_97 : decode cX1_begin 97 = .ok (.getfield 21, 3) := by decide +kernel
theorem dX1_begin_100 : decode cX1_begin 100 = .ok (.aload_n 0, 1) := by decide +kernel
theorem dX1_begin_101 : decode cX1_begin 101 = .ok (.getfield 27, 3) := by decide +kernel
theorem dX1_begin_104 : decode cX1_begin 104 = .ok (.getfield 89, 3) := by decide +kernel
theorem dX1_begin_107 : decode cX1_begin 107 = .ok (.invokevirtual 93, 3) := by decide +kernel
theorem dX1_begin_110 : decode cX1_begin 110 = .ok (.iconst 0, 1) := by decide +kernel
theorem dX1_begin_111 : decode cX1_begin 111 = .ok (.ireturn, 1) := by decide +kernel
theorem dX1_nextRight_0 : decode cX1_nextRight 0 = .ok (.aload_n 0, 1) := by decide +kernel
theorem dX1_nextRight_1 : decode cX1_nextRight 1 = .ok (.getfield 56, 3) := by decide +kernel
theorem dX1_nextRight_4 : decode cX1_nextRight 4 = .ok (.aload_n 0, 1) := by decide +kernel
theorem dX1_nextRight_5 : decode cX1_nextRight 5 = .ok (.getfield 34, 3) := by decide +kernel
theorem dX1_nextRight_8 : decode cX1_nextRight 8 = .ok (.invokevirtual 97, 3) := by decide +kernel
theorem dX1_nextRight_11 : decode cX1_nextRight 11 = .ok (.if_icmp .lt 18, 3) := by decide +kernel
theorem dX1_nextRight_14 : decode cX1_nextRight 14 = .ok (.aload_n 0, 1) := by decide +kernel
theorem dX1_nextRight_15 : decode cX1_nextRight 15 = .ok (.getfield 34, 3) := by decide +kernel
theorem dX1_nextRight_18 : decode cX1_nextRight 18 = .ok (.new 24, 3) := by decide +kernel
theorem dX1_nextRight_21 : decode cX1_nextRight 21 = .ok (.dup, 1) := by decide +kernel
theorem dX1_nextRight_22 : decode cX1_nextRight 22 = .ok (.invokespecial 26, 3) := by decide +kernel
theorem dX1_nextRight_25 : decode cX1_nextRight 25 = .ok (.invokevirtual 101, 3) := by decide +kernel
theorem dX1_nextRight_28 : decode cX1_nextRight 28 = .ok (.pop, 1) := by decide +kernel
theorem dX1_nextRight_29 : decode cX1_nextRight 29 = .ok (.aload_n 0, 1) := by decide +kernel
theorem dX1_nextRight_30 : decode cX1_nextRight 30 = .ok (.dup, 1) := by decide +kernel
theorem dX1_nextRight_31 : decode cX1_nextRight 31 = .ok (.getfield 56, 3) := by decide +kernel
theorem dX1_nextRight_34 : decode cX1_nextRight 34 = .ok (.iconst 1, 1) := by decide +kernel
theorem dX1_nextRight_35 : decode cX1_nextRight 35 = .ok (.iadd, 1) := by decide +kernel
theorem dX1_nextRight_36 : decode cX1_nextRight 36 = .ok (.putfield 56, 3) := by decide +kernel
theorem dX1_nextRight_39 : decode cX1_nextRight 39 = .ok (.aload_n 0, 1) := by decide +kernel
theorem dX1_nextRight_40 : decode cX1_nextRight 40 = .ok (.getfield 34, 3) := by decide +kernel
theorem dX1_nextRight_43 : decode cX1_nextRight 43 = .ok (.aload_n 0, 1) := by decide +kernel
theorem dX1_nextRight_44 : decode cX1_nextRight 44 = .ok (.getfield 56, 3) := by decide +kernel
theorem dX1_nextRight_47 : decode cX1_nextRight 47 = .ok (.iconst 1, 1) := by decide +kernel
theorem dX1_nextRight_48 : decode cX1_nextRight 48 = .ok (.isub, 1) := by decide +kernel
theorem dX1_nextRight_49 : decode cX1_nextRight 49 = .ok (.invokevirtual 60, 3) := by decide +kernel
theorem dX1_nextRight_52 : decode cX1_nextRight 52 = .ok (.checkcast 24, 3) := by decide +kernel
theorem dX1_nextRight_55 : decode cX1_nextRight 55 = .ok (.areturn, 1) := by decide +kernel
theorem dX2_init_0 : decode cX2_init 0 = .ok (.aload_n 0, 1) := by decide +kernel
theorem dX2_init_1 : decode cX2_init 1 = .ok (.invokespecial 3, 3) := by decide +kernel
theorem dX2_init_4 : decode cX2_init 4 = .ok (.return_, 1) := by decide +kernel
theorem dX3_init_0 : decode cX3_init 0 = .ok (.aload_n 0, 1) := by decide +kernel
theorem dX3_init_1 : decode cX3_init 1 = .ok (.invokespecial 3, 3) := by decide +kernel
theorem dX3_init_4 : decode cX3_init 4 = .ok (.aload_n 0, 1) := by decide +kernel
theorem dX3_init_5 : decode cX3_init 5 = .ok (.lconst 1, 1) := by decide +kernel
theorem dX3_init_6 : decode cX3_init 6 = .ok (.putfield 9, 3) := by decide +kernel
theorem dX3_init_9 : decode cX3_init 9 = .ok (.return_, 1) := by decide +kernel
theorem dX3_touch_0 : decode cX3_touch 0 = .ok (.aload_n 0, 1) := by decide +kernel
theorem dX3_touch_1 : decode cX3_touch 1 = .ok (.lload_n 3, 1) := by decide +kernel
theorem dX3_touch_2 : decode cX3_touch 2 = .ok (.putfield 15, 3) := by decide +kernel
theorem dX3_touch_5 : decode cX3_touch 5 = .ok (.aload_n 0, 1) := by decide +kernel
theorem dX3_touch_6 : decode cX3_touch 6 = .ok (.lload 5, 2) := by decide +kernel
theorem dX3_touch_8 : decode cX3_touch 8 = .ok (.putfield 9, 3) := by decide +kernel
theorem dX3_touch_11 : decode cX3_touch 11 = .ok (.lload 5, 2) := by decide +kernel
theorem dX3_touch_13 : decode cX3_touch 13 = .ok (.lconst 0, 1) := by decide +kernel
theorem dX3_touch_14 : decode cX3_touch 14 = .ok (.lcmp, 1) := by decide +kernel
theorem dX3_touch_15 : decode cX3_touch 15 = .ok (.ifCond .le 14, 3) := by decide +kernel
theorem dX3_touch_18 : decode cX3_touch 18 = .ok (.aload_n 2, 1) := by decide +kernel
theorem dX3_touch_19 : decode cX3_touch 19 = .ok (.aload_n 1, 1) := by decide +kernel
theorem dX3_touch_20 : decode cX3_touch 20 = .ok (.lload_n 3, 1) := by decide +kernel
theorem dX3_touch_21 : decode cX3_touch 21 = .ok (.lload 5, 2) := by decide +kernel
theorem dX3_touch_23 : decode cX3_touch 23 = .ok (.invokevirtual 18, 3) := by decide +kernel
theorem dX3_touch_26 : decode cX3_touch 26 = .ok (.ifCond .eq 5, 3) := by decide +kernel
theorem dX3_touch_29 : decode cX3_touch 29 = .ok (.iconst 0, 1) := by decide +kernel
theorem dX3_touch_30 : decode cX3_touch 30 = .ok (.ireturn, 1) := by decide +kernel
theorem dX3_touch_31 : decode cX3_touch 31 = .ok (.aload_n 0, 1) := by decide +kernel
theorem dX3_touch_32 : decode cX3_touch 32 = .ok (.aload_n 2, 1) := by decide +kernel
theorem dX3_touch_33 : decode cX3_touch 33 = .ok (.aload_n 1, 1) := by decide +kernel
theorem dX3_touch_34 : decode cX3_touch 34 = .ok (.invokevirtual 24, 3) := by decide +kernel
theorem dX3_touch_37 : decode cX3_touch 37 = .ok (.putfield 28, 3) := by decide +kernel
theorem dX3_touch_40 : decode cX3_touch 40 = .ok (.aload_n 0, 1) := by decide +kernel
theorem dX3_touch_41 : decode cX3_touch 41 = .ok (.aload_n 2, 1) := by decide +kernel
theorem dX3_touch_42 : decode cX3_touch 42 = .ok (.getfield 31, 3) := by decide +kernel
theorem dX3_touch_45 : decode cX3_touch 45 = .ok (.invokevirtual 35, 3) := by decide +kernel
theorem dX3_touch_48 : decode cX3_touch 48 = .ok (.lload_n 3, 1) := by decide +kernel
theorem dX3_touch_49 : decode cX3_touch 49 = .ok (.aload_n 0, 1) := by decide +kernel
theorem dX3_touch_50 : decode cX3_touch 50 = .ok (.getfield 28, 3) := by decide +kernel
theorem dX3_touch_53 : decode cX3_touch 53 = .ok (.lmul, 1) := by decide +kernel
theorem dX3_touch_54 : decode cX3_touch 54 = .ok (.lsub, 1) := by decide +kernel
theorem dX3_touch_55 : decode cX3_touch 55 = .ok (.lload 5, 2) := by decide +kernel
theorem dX3_touch_57 : decode cX3_touch 57 = .ok (.ldiv, 1) := by decide +kernel
theorem dX3_touch_58 : decode cX3_touch 58 = .ok (.putfield 41, 3) := by decide +kernel
theorem dX3_touch_61 : decode cX3_touch 61 = .ok (.iconst 1, 1) := by decide +kernel
theorem dX3_touch_62 : decode cX3_touch 62 = .ok (.ireturn, 1) := by decide +kernel
theorem dX3_meets_0 : decode cX3_meets 0 = .ok (.aload_n 0, 1) := by decide +kernel
theorem dX3_meets_1 : decode cX3_meets 1 = .ok (.getfield 41, 3) := by decide +kernel
theorem dX3_meets_4 : decode cX3_meets 4 = .ok (.aload_n 1, 1) := by decide +kernel
theorem dX3_meets_5 : decode cX3_meets 5 = .ok (.getfield 9, 3) := by decide +kernel
theorem dX3_meets_8 : decode cX3_meets 8 = .ok (.lmul, 1) := by decide +kernel
theorem dX3_meets_9 : decode cX3_meets 9 = .ok (.aload_n 0, 1) := by decide +kernel
theorem dX3_meets_10 : decode cX3_meets 10 = .ok (.getfield 28, 3) := by decide +kernel
theorem dX3_meets_13 : decode cX3_meets 13 = .ok (.aload_n 1, 1) := by decide +kernel
theorem dX3_meets_14 : decode cX3_meets 14 = .ok (.getfield 15, 3) := by decide +kernel
theorem dX3_meets_17 : decode cX3_meets 17 = .ok (.lmul, 1) := by decide +kernel
theorem dX3_meets_18 : decode cX3_meets 18 = .ok (.ladd, 1) := by decide +kernel
theorem dX3_meets_19 : decode cX3_meets 19 = .ok (.aload_n 1, 1) := by decide +kernel
theorem dX3_meets_20 : decode cX3_meets 20 = .ok (.getfield 41, 3) := by decide +kernel
theorem dX3_meets_23 : decode cX3_meets 23 = .ok (.aload_n 1, 1) := by decide +kernel
theorem dX3_meets_24 : decode cX3_meets 24 = .ok (.getfield 9, 3) := by decide +kernel
theorem dX3_meets_27 : decode cX3_meets 27 = .ok (.lmul, 1) := by decide +kernel
theorem dX3_meets_28 : decode cX3_meets 28 = .ok (.aload_n 1, 1) := by decide +kernel
theorem dX3_meets_29 : decode cX3_meets 29 = .ok (.getfield 28, 3) := by decide +kernel
theorem dX3_meets_32 : decode cX3_meets 32 = .ok (.aload_n 1, 1) := by decide +kernel
theorem dX3_meets_33 : decode cX3_meets 33 = .ok (.getfield 15, 3) := by decide +kernel
theorem dX3_meets_36 : decode cX3_meets 36 = .ok (.lmul, 1) := by decide +kernel
theorem dX3_meets_37 : decode cX3_meets 37 = .ok (.ladd, 1) := by decide +kernel
theorem dX3_meets_38 : decode cX3_meets 38 = .ok (.lcmp, 1) := by decide +kernel
theorem dX3_meets_39 : decode cX3_meets 39 = .ok (.ifCond .ne 7, 3) := by decide +kernel
theorem dX3_meets_42 : decode cX3_meets 42 = .ok (.iconst 1, 1) := by decide +kernel
theorem dX3_meets_43 : decode cX3_meets 43 = .ok (.goto 4, 3) := by decide +kernel
theorem dX3_meets_46 : decode cX3_meets 46 = .ok (.iconst 0, 1) := by decide +kernel
theorem dX3_meets_47 : decode cX3_meets 47 = .ok (.ireturn, 1) := by decide +kernel
theorem dX4_init_0 : decode cX4_init 0 = .ok (.aload_n 0, 1) := by decide +kernel
theorem dX4_init_1 : decode cX4_init 1 = .ok (.invokespecial 3, 3) := by decide +kernel
theorem dX4_init_4 : decode cX4_init 4 = .ok (.aload_n 0, 1) := by decide +kernel
theorem dX4_init_5 : decode cX4_init 5 = .ok (.bipush 32, 2) := by decide +kernel
theorem dX4_init_7 : decode cX4_init 7 = .ok (.newarray .long, 2) := by decide +kernel
theorem dX4_init_9 : decode cX4_init 9 = .ok (.putfield 9, 3) := by decide +kernel
theorem dX4_init_12 : decode cX4_init 12 = .ok (.return_, 1) := by decide +kernel
theorem dX4_clear_0 : decode cX4_clear 0 = .ok (.aload_n 0, 1) := by decide +kernel
theorem dX4_clear_1 : decode cX4_clear 1 = .ok (.iconst 0, 1) := by decide +kernel
theorem dX4_clear_2 : decode cX4_clear 2 = .ok (.putfield 15, 3) := by decide +kernel
theorem dX4_clear_5 : decode cX4_clear 5 = .ok (.return_, 1) := by decide +kernel
theorem dX4_add_0 : decode cX4_add 0 = .ok (.aload_n 0, 1) := by decide +kernel
theorem dX4_add_1 : decode cX4_add 1 = .ok (.getfield 15, 3) := by decide +kernel
theorem dX4_add_4 : decode cX4_add 4 = .ok (.aload_n 0, 1) := by decide +kernel
theorem dX4_add_5 : decode cX4_add 5 = .ok (.getfield 9, 3) := by decide +kernel
theorem dX4_add_8 : decode cX4_add 8 = .ok (.arraylength, 1) := by decide +kernel
theorem dX4_add_9 : decode cX4_add 9 = .ok (.if_icmp .lt 30, 3) := by decide +kernel
theorem dX4_add_12 : decode cX4_add 12 = .ok (.aload_n 0, 1) := by decide +kernel
theorem dX4_add_13 : decode cX4_add 13 = .ok (.getfield 15, 3) := by decide +kernel
theorem dX4_add_16 : decode cX4_add 16 = .ok (.ldc 19, 2) := by decide +kernel
theorem dX4_add_18 : decode cX4_add 18 = .ok (.if_icmp .lt 4, 3) := by decide +kernel
theorem dX4_add_21 : decode cX4_add 21 = .ok (.return_, 1) := by decide +kernel
theorem dX4_add_22 : decode cX4_add 22 = .ok (.aload_n 0, 1) := by decide +kernel
theorem dX4_add_23 : decode cX4_add 23 = .ok (.aload_n 0, 1) := by decide +kernel
theorem dX4_add_24 : decode cX4_add 24 = .ok (.getfield 9, 3) := by decide +kernel
theorem dX4_add_27 : decode cX4_add 27 = .ok (.iconst 2, 1) := by decide +kernel
theorem dX4_add_28 : decode cX4_add 28 = .ok (.aload_n 0, 1) := by decide +kernel
theorem dX4_add_29 : decode cX4_add 29 = .ok (.getfield 15, 3) := by decide +kernel
theorem dX4_add_32 : decode cX4_add 32 = .ok (.imul, 1) := by decide +kernel
theorem dX4_add_33 : decode cX4_add 33 = .ok (.invokestatic 20, 3) := by decide +kernel
theorem dX4_add_36 : decode cX4_add 36 = .ok (.putfield 9, 3) := by decide +kernel
theorem dX4_add_39 : decode cX4_add 39 = .ok (.aload_n 0, 1) := by decide +kernel
theorem dX4_add_40 : decode cX4_add 40 = .ok (.getfield 9, 3) := by decide +kernel
theorem dX4_add_43 : decode cX4_add 43 = .ok (.aload_n 0, 1) := by decide +kernel
theorem dX4_add_44 : decode cX4_add 44 = .ok (.getfield 15, 3) := by decide +kernel
theorem dX4_add_47 : decode cX4_add 47 = .ok (.lload_n 1, 1) := by decide +kernel
theorem dX4_add_48 : decode cX4_add 48 = .ok (.lastore, 1) := by decide +kernel
theorem dX4_add_49 : decode cX4_add 49 = .ok (.aload_n 0, 1) := by decide +kernel
theorem dX4_add_50 : decode cX4_add 50 = .ok (.dup, 1) := by decide +kernel
theorem dX4_add_51 : decode cX4_add 51 = .ok (.getfield 15, 3) := by decide +kernel
theorem dX4_add_54 : decode cX4_add 54 = .ok (.iconst 1, 1) := by decide +kernel
theorem dX4_add_55 : decode cX4_add 55 = .ok (.iadd, 1) := by decide +kernel
theorem dX4_add_56 : decode cX4_add 56 = .ok (.putfield 15, 3) := by decide +kernel
theorem dX4_add_59 : decode cX4_add 59 = .ok (.return_, 1) := by decide +kernel
theorem dX4_at_0 : decode cX4_at 0 = .ok (.iload_n 1, 1) := by decide +kernel
theorem dX4_at_1 : decode cX4_at 1 = .ok (.ifCond .lt 20, 3) := by decide +kernel
theorem dX4_at_4 : decode cX4_at 4 = .ok (.iload_n 1, 1) := by decide +kernel
theorem dX4_at_5 : decode cX4_at 5 = .ok (.aload_n 0, 1) := by decide +kernel
theorem dX4_at_6 : decode cX4_at 6 = .ok (.getfield 15, 3) := by decide +kernel
theorem dX4_at_9 : decode cX4_at 9 = .ok (.if_icmp .ge 12, 3) := by decide +kernel
theorem dX4_at_12 : decode cX4_at 12 = .ok (.aload_n 0, 1) := by decide +kernel
theorem dX4_at_13 : decode cX4_at 13 = .ok (.getfield 9, 3) := by decide +kernel
theorem dX4_at_16 : decode cX4_at 16 = .ok (.iload_n 1, 1) := by decide +kernel
theorem dX4_at_17 : decode cX4_at 17 = .ok (.laload, 1) := by decide +kernel
theorem dX4_at_18 : decode cX4_at 18 = .ok (.goto 6, 3) := by decide +kernel
theorem dX4_at_21 : decode cX4_at 21 = .ok (.ldc2_w 26, 3) := by decide +kernel
theorem dX4_at_24 : decode cX4_at 24 = .ok (.lreturn, 1) := by decide +kernel
theorem dX5_init_0 : decode cX5_init 0 = .ok (.aload_n 0, 1) := by decide +kernel
theorem dX5_init_1 : decode cX5_init 1 = .ok (.invokespecial 3, 3) := by decide +kernel
theorem dX5_init_4 : decode cX5_init 4 = .ok (.aload_n 0, 1) := by decide +kernel
theorem dX5_init_5 : decode cX5_init 5 = .ok (.iconst 2, 1) := by decide +kernel
theorem dX5_init_6 : decode cX5_init 6 = .ok (.putfield 9, 3) := by decide +kernel
theorem dX5_init_9 : decode cX5_init 9 = .ok (.aload_n 0, 1) := by decide +kernel
theorem dX5_init_10 : decode cX5_init 10 = .ok (.iconst 0, 1) := by decide +kernel
theorem dX5_init_11 : decode cX5_init 11 = .ok (.putfield 15, 3) := by decide +kernel
theorem dX5_init_14 : decode cX5_init 14 = .ok (.aload_n 0, 1) := by decide +kernel
theorem dX5_init_15 : decode cX5_init 15 = .ok (.bipush 8, 2) := by decide +kernel
theorem dX5_init_17 : decode cX5_init 17 = .ok (.newarray .int, 2) := by decide +kernel
theorem dX5_init_19 : decode cX5_init 19 = .ok (.putfield 18, 3) := by decide +kernel
theorem dX5_init_22 : decode cX5_init 22 = .ok (.aload_n 0, 1) := by decide +kernel
theorem dX5_init_23 : decode cX5_init 23 = .ok (.bipush 8, 2) := by decide +kernel
theorem dX5_init_25 : decode cX5_init 25 = .ok (.newarray .int, 2) := by decide +kernel
theorem dX5_init_27 : decode cX5_init 27 = .ok (.putfield 22, 3) := by decide +kernel
theorem dX5_init_30 : decode cX5_init 30 = .ok (.aload_n 0, 1) := by decide +kernel
theorem dX5_init_31 : decode cX5_init 31 = .ok (.bipush 20, 2) := by decide +kernel
theorem dX5_init_33 : decode cX5_init 33 = .ok (.newarray .int, 2) := by decide +kernel
theorem dX5_init_35 : decode cX5_init 35 = .ok (.putfield 25, 3) := by decide +kernel
theorem dX5_init_38 : decode cX5_init 38 = .ok (.aload_n 0, 1) := by decide +kernel
theorem dX5_init_39 : decode cX5_init 39 = .ok (.bipush 20, 2) := by decide +kernel
theorem dX5_init_41 : decode cX5_init 41 = .ok (.newarray .int, 2) := by decide +kernel
theorem dX5_init_43 : decode cX5_init 43 = .ok (.putfield 28, 3) := by decide +kernel
theorem dX5_init_46 : decode cX5_init 46 = .ok (.aload_n 0, 1) := by decide +kernel
theorem dX5_init_47 : decode cX5_init 47 = .ok (.bipush 20, 2) := by decide +kernel
theorem dX5_init_49 : decode cX5_init 49 = .ok (.newarray .int, 2) := by decide +kernel
theorem dX5_init_51 : decode cX5_init 51 = .ok (.putfield 31, 3) := by decide +kernel
theorem dX5_init_54 : decode cX5_init 54 = .ok (.aload_n 0, 1) := by decide +kernel
theorem dX5_init_55 : decode cX5_init 55 = .ok (.bipush 20, 2) := by decide +kernel
theorem dX5_init_57 : decode cX5_init 57 = .ok (.newarray .int, 2) := by decide +kernel
theorem dX5_init_59 : decode cX5_init 59 = .ok (.putfield 34, 3) := by decide +kernel
theorem dX5_init_62 : decode cX5_init 62 = .ok (.aload_n 0, 1) := by decide +kernel
theorem dX5_init_63 : decode cX5_init 63 = .ok (.bipush 20, 2) := by decide +kernel
theorem dX5_init_65 : decode cX5_init 65 = .ok (.newarray .int, 2) := by decide +kernel
theorem dX5_init_67 : decode cX5_init 67 = .ok (.putfield 37, 3) := by decide +kernel
theorem dX5_init_70 : decode cX5_init 70 = .ok (.return_, 1) := by decide +kernel
theorem dX5_clear_0 : decode cX5_clear 0 = .ok (.aload_n 0, 1) := by decide +kernel
theorem dX5_clear_1 : decode cX5_clear 1 = .ok (.iload_n 1, 1) := by decide +kernel
theorem dX5_clear_2 : decode cX5_clear 2 = .ok (.putfield 9, 3) := by decide +kernel
theorem dX5_clear_5 : decode cX5_clear 5 = .ok (.aload_n 0, 1) := by decide +kernel
theorem dX5_clear_6 : decode cX5_clear 6 = .ok (.iconst 0, 1) := by decide +kernel
theorem dX5_clear_7 : decode cX5_clear 7 = .ok (.putfield 40, 3) := by decide +kernel
theorem dX5_clear_10 : decode cX5_clear 10 = .ok (.aload_n 0, 1) := by decide +kernel
theorem dX5_clear_11 : decode cX5_clear 11 = .ok (.iconst 0, 1) := by decide +kernel
theorem dX5_clear_12 : decode cX5_clear 12 = .ok (.putfield 15, 3) := by decide +kernel
theorem dX5_clear_15 : decode cX5_clear 15 = .ok (.aload_n 0, 1) := by decide +kernel
theorem dX5_clear_16 : decode cX5_clear 16 = .ok (.getfield 18, 3) := by decide +kernel
theorem dX5_clear_19 : decode cX5_clear 19 = .ok (.iconst 0, 1) := by decide +kernel
theorem dX5_clear_20 : decode cX5_clear 20 = .ok (.invokestatic 43, 3) := by decide +kernel
theorem dX5_clear_23 : decode cX5_clear 23 = .ok (.aload_n 0, 1) := by decide +kernel
theorem dX5_clear_24 : decode cX5_clear 24 = .ok (.getfield 22, 3) := by decide +kernel
theorem dX5_clear_27 : decode cX5_clear 27 = .ok (.iconst 0, 1) := by decide +kernel
theorem dX5_clear_28 : decode cX5_clear 28 = .ok (.invokestatic 43, 3) := by decide +kernel
theorem dX5_clear_31 : decode cX5_clear 31 = .ok (.return_, 1) := by decide +kernel
theorem dX5_hasNode_0 : decode cX5_hasNode 0 = .ok (.iload_n 1, 1) := by decide +kernel
theorem dX5_hasNode_1 : decode cX5_hasNode 1 = .ok (.ifCond .lt 15, 3) := by decide +kernel
theorem dX5_hasNode_4 : decode cX5_hasNode 4 = .ok (.iload_n 1, 1) := by decide +kernel
theorem dX5_hasNode_5 : decode cX5_hasNode 5 = .ok (.aload_n 0, 1) := by decide +kernel
theorem dX5_hasNode_6 : decode cX5_hasNode 6 = .ok (.getfield 9, 3) := by decide +kernel
theorem dX5_hasNode_9 : decode cX5_hasNode 9 = .ok (.if_icmp .ge 7, 3) := by decide +kernel
theorem dX5_hasNode_12 : decode cX5_hasNode 12 = .ok (.iconst 1, 1) := by decide +kernel
theorem dX5_hasNode_13 : decode cX5_hasNode 13 = .ok (.goto 4, 3) := by decide +kernel
theorem dX5_hasNode_16 : decode cX5_hasNode 16 = .ok (.iconst 0, 1) := by decide +kernel
theorem dX5_hasNode_17 : decode cX5_hasNode 17 = .ok (.ireturn, 1) := by decide +kernel
theorem dX5_hasArc_0 : decode cX5_hasArc 0 = .ok (.iload_n 1, 1) := by decide +kernel
theorem dX5_hasArc_1 : decode cX5_hasArc 1 = .ok (.ifCond .lt 15, 3) := by decide +kernel
theorem dX5_hasArc_4 : decode cX5_hasArc 4 = .ok (.iload_n 1, 1) := by decide +kernel
theorem dX5_hasArc_5 : decode cX5_hasArc 5 = .ok (.aload_n 0, 1) := by decide +kernel
theorem dX5_hasArc_6 : decode cX5_hasArc 6 = .ok (.getfield 40, 3) := by decide +kernel
theorem dX5_hasArc_9 : decode cX5_hasArc 9 = .ok (.if_icmp .ge 7, 3) := by decide +kernel
theorem dX5_hasArc_12 : decode cX5_hasArc 12 = .ok (.iconst 1, 1) := by decide +kernel
theorem dX5_hasArc_13 : decode cX5_hasArc 13 = .ok (.goto 4, 3) := by decide +kernel
theorem dX5_hasArc_16 : decode cX5_hasArc 16 = .ok (.iconst 0, 1) := by decide +kernel
theorem dX5_hasArc_17 : decode cX5_hasArc 17 = .ok (.ireturn, 1) := by decide +kernel
theorem dX5_sumOf_0 : decode cX5_sumOf 0 = .ok (.iconst 0, 1) := by decide +kernel
theorem dX5_sumOf_1 : decode cX5_sumOf 1 = .ok (.istore_n 2, 1) := by decide +kernel
theorem dX5_sumOf_2 : decode cX5_sumOf 2 = .ok (.iconst 0, 1) := by decide +kernel
theorem dX5_sumOf_3 : decode cX5_sumOf 3 = .ok (.istore_n 3, 1) := by decide +kernel
theorem dX5_sumOf_4 : decode cX5_sumOf 4 = .ok (.iload_n 3, 1) := by decide +kernel
theorem dX5_sumOf_5 : decode cX5_sumOf 5 = .ok (.aload_n 0, 1) := by decide +kernel
theorem dX5_sumOf_6 : decode cX5_sumOf 6 = .ok (.getfield 9, 3) := by decide +kernel
theorem dX5_sumOf_9 : decode cX5_sumOf 9 = .ok (.if_icmp .ge 15, 3) := by decide +kernel
theorem dX5_sumOf_12 : decode cX5_sumOf 12 = .ok (.iload_n 2, 1) := by decide +kernel
theorem dX5_sumOf_13 : decode cX5_sumOf 13 = .ok (.aload_n 1, 1) := by decide +kernel
theorem dX5_sumOf_14 : decode cX5_sumOf 14 = .ok (.iload_n 3, 1) := by decide +kernel
theorem dX5_sumOf_15 : decode cX5_sumOf 15 = .ok (.iaload, 1) := by decide +kernel
theorem dX5_sumOf_16 : decode cX5_sumOf 16 = .ok (.iadd, 1) := by decide +kernel
theorem dX5_sumOf_17 : decode cX5_sumOf 17 = .ok (.istore_n 2, 1) := by decide +kernel
theorem dX5_sumOf_18 : decode cX5_sumOf 18 = .ok (.iinc 3 1, 3) := by decide +kernel
theorem dX5_sumOf_21 : decode cX5_sumOf 21 = .ok (.goto (-17), 3) := by decide +kernel
theorem dX5_sumOf_24 : decode cX5_sumOf 24 = .ok (.iload_n 2, 1) := by decide +kernel
theorem dX5_sumOf_25 : decode cX5_sumOf 25 = .ok (.ireturn, 1) := by decide +kernel
theorem dX5_isBalanced_0 : decode cX5_isBalanced 0 = .ok (.lconst 0, 1) := by decide +kernel
theorem dX5_isBalanced_1 : decode cX5_isBalanced 1 = .ok (.lstore 5, 2) := by decide +kernel
theorem dX5_isBalanced_3 : decode cX5_isBalanced 3 = .ok (.iconst 0, 1) := by decide +kernel
theorem dX5_isBalanced_4 : decode cX5_isBalanced 4 = .ok (.istore 7, 2) := by decide +kernel
theorem dX5_isBalanced_6 : decode cX5_isBalanced 6 = .ok (.iload 7, 2) := by decide +kernel
theorem dX5_isBalanced_8 : decode cX5_isBalanced 8 = .ok (.aload_n 0, 1) := by decide +kernel
theorem dX5_isBalanced_9 : decode cX5_isBalanced 9 = .ok (.getfield 9, 3) := by decide +kernel
theorem dX5_isBalanced_12 : decode cX5_isBalanced 12 = .ok (.if_icmp .ge 22, 3) := by decide +kernel
theorem dX5_isBalanced_15 : decode cX5_isBalanced 15 = .ok (.lload 5, 2) := by decide +kernel
theorem dX5_isBalanced_17 : decode cX5_isBalanced 17 = .ok (.aload_n 0, 1) := by decide +kernel
theorem dX5_isBalanced_18 : decode cX5_isBalanced 18 = .ok (.iload 7, 2) := by decide +kernel
theorem dX5_isBalanced_20 : decode cX5_isBalanced 20 = .ok (.lload_n 1, 1) := by decide +kernel
theorem dX5_isBalanced_21 : decode cX5_isBalanced 21 = .ok (.lload_n 3, 1) := by decide +kernel
theorem dX5_isBalanced_22 : decode cX5_isBalanced 22 = .ok (.invokevirtual 49, 3) := by decide +kernel
theorem dX5_isBalanced_25 : decode cX5_isBalanced 25 = .ok (.ladd, 1) := by decide +kernel
theorem dX5_isBalanced_26 : decode cX5_isBalanced 26 = .ok (.lstore 5, 2) := by decide +kernel
theorem dX5_isBalanced_28 : decode cX5_isBalanced 28 = .ok (.iinc 7 1, 3) := by decide +kernel
theorem dX5_isBalanced_31 : decode cX5_isBalanced 31 = .ok (.goto (-25), 3) := by decide +kernel
theorem dX5_isBalanced_34 : decode cX5_isBalanced 34 = .ok (.lload 5, 2) := by decide +kernel
theorem dX5_isBalanced_36 : decode cX5_isBalanced 36 = .ok (.lconst 0, 1) := by decide +kernel
theorem dX5_isBalanced_37 : decode cX5_isBalanced 37 = .ok (.lcmp, 1) := by decide +kernel
theorem dX5_isBalanced_38 : decode cX5_isBalanced 38 = .ok (.ifCond .ne 7, 3) := by decide +kernel
theorem dX5_isBalanced_41 : decode cX5_isBalanced 41 = .ok (.iconst 1, 1) := by decide +kernel
theorem dX5_isBalanced_42 : decode cX5_isBalanced 42 = .ok (.goto 4, 3) := by decide +kernel
theorem dX5_isBalanced_45 : decode cX5_isBalanced 45 = .ok (.iconst 0, 1) := by decide +kernel
theorem dX5_isBalanced_46 : decode cX5_isBalanced 46 = .ok (.ireturn, 1) := by decide +kernel
theorem dX5_scaledSupply_0 : decode cX5_scaledSupply 0 = .ok (.aload_n 0, 1) := by decide +kernel
theorem dX5_scaledSupply_1 : decode cX5_scaledSupply 1 = .ok (.getfield 15, 3) := by decide +kernel
theorem dX5_scaledSupply_4 : decode cX5_scaledSupply 4 = .ok (.iconst 1, 1) := by decide +kernel
theorem dX5_scaledSupply_5 : decode cX5_scaledSupply 5 = .ok (.if_icmp .ne 26, 3) := by decide +kernel
theorem dX5_scaledSupply_8 : decode cX5_scaledSupply 8 = .ok (.lload 4, 2) := by decide +kernel
theorem dX5_scaledSupply_10 : decode cX5_scaledSupply 10 = .ok (.aload_n 0, 1) := by decide +kernel
theorem dX5_scaledSupply_11 : decode cX5_scaledSupply 11 = .ok (.getfield 18, 3) := by decide +kernel
theorem dX5_scaledSupply_14 : decode cX5_scaledSupply 14 = .ok (.iload_n 1, 1) := by decide +kernel
theorem dX5_scaledSupply_15 : decode cX5_scaledSupply 15 = .ok (.iaload, 1) := by decide +kernel
theorem dX5_scaledSupply_16 : decode cX5_scaledSupply 16 = .ok (.i2l, 1) := by decide +kernel
theorem dX5_scaledSupply_17 : decode cX5_scaledSupply 17 = .ok (.lmul, 1) := by decide +kernel
theorem dX5_scaledSupply_18 : decode cX5_scaledSupply 18 = .ok (.lload_n 2, 1) := by decide +kernel
theorem dX5_scaledSupply_19 : decode cX5_scaledSupply 19 = .ok (.aload_n 0, 1) := by decide +kernel
theorem dX5_scaledSupply_20 : decode cX5_scaledSupply 20 = .ok (.getfield 22, 3) := by decide +kernel
theorem dX5_scaledSupply_23 : decode cX5_scaledSupply 23 = .ok (.iload_n 1, 1) := by decide +kernel
theorem dX5_scaledSupply_24 : decode cX5_scaledSupply 24 = .ok (.iaload, 1) := by decide +kernel
theorem dX5_scaledSupply_25 : decode cX5_scaledSupply 25 = .ok (.i2l, 1) := by decide +kernel
theorem dX5_scaledSupply_26 : decode cX5_scaledSupply 26 = .ok (.lmul, 1) := by decide +kernel
theorem dX5_scaledSupply_27 : decode cX5_scaledSupply 27 = .ok (.ladd, 1) := by decide +kernel
theorem dX5_scaledSupply_28 : decode cX5_scaledSupply 28 = .ok (.goto 10, 3) := by decide +kernel
theorem dX5_scaledSupply_31 : decode cX5_scaledSupply 31 = .ok (.aload_n 0, 1) := by decide +kernel
theorem dX5_scaledSupply_32 : decode cX5_scaledSupply 32 = .ok (.getfield 18, 3) := by decide +kernel
theorem dX5_scaledSupply_35 : decode cX5_scaledSupply 35 = .ok (.iload_n 1, 1) := by decide +kernel
theorem dX5_scaledSupply_36 : decode cX5_scaledSupply 36 = .ok (.iaload, 1) := by decide +kernel
theorem dX5_scaledSupply_37 : decode cX5_scaledSupply 37 = .ok (.i2l, 1) := by decide +kernel
theorem dX5_scaledSupply_38 : decode cX5_scaledSupply 38 = .ok (.lreturn, 1) := by decide +kernel
theorem dX6_init_0 : decode cX6_init 0 = .ok (.aload_n 0, 1) := by decide +kernel
theorem dX6_init_1 : decode cX6_init 1 = .ok (.invokespecial 1, 3) := by decide +kernel
theorem dX6_init_4 : decode cX6_init 4 = .ok (.aload_n 0, 1) := by decide +kernel
theorem dX6_init_5 : decode cX6_init 5 = .ok (.lconst 1, 1) := by decide +kernel
theorem dX6_init_6 : decode cX6_init 6 = .ok (.putfield 7, 3) := by decide +kernel
theorem dX6_init_9 : decode cX6_init 9 = .ok (.aload_n 0, 1) := by decide +kernel
theorem dX6_init_10 : decode cX6_init 10 = .ok (.lconst 1, 1) := by decide +kernel
theorem dX6_init_11 : decode cX6_init 11 = .ok (.putfield 13, 3) := by decide +kernel
theorem dX6_init_14 : decode cX6_init 14 = .ok (.return_, 1) := by decide +kernel
theorem dX7_init_0 : decode cX7_init 0 = .ok (.aload_n 0, 1) := by decide +kernel
theorem dX7_init_1 : decode cX7_init 1 = .ok (.invokespecial 3, 3) := by decide +kernel
theorem dX7_init_4 : decode cX7_init 4 = .ok (.aload_n 0, 1) := by decide +kernel
theorem dX7_init_5 : decode cX7_init 5 = .ok (.lconst 1, 1) := by decide +kernel
theorem dX7_init_6 : decode cX7_init 6 = .ok (.putfield 9, 3) := by decide +kernel
theorem dX7_init_9 : decode cX7_init 9 = .ok (.aload_n 0, 1) := by decide +kernel
theorem dX7_init_10 : decode cX7_init 10 = .ok (.new 15, 3) := by decide +kernel
theorem dX7_init_13 : decode cX7_init 13 = .ok (.dup, 1) := by decide +kernel
theorem dX7_init_14 : decode cX7_init 14 = .ok (.invokespecial 17, 3) := by decide +kernel
theorem dX7_init_17 : decode cX7_init 17 = .ok (.putfield 18, 3) := by decide +kernel
theorem dX7_init_20 : decode cX7_init 20 = .ok (.aload_n 0, 1) := by decide +kernel
theorem dX7_init_21 : decode cX7_init 21 = .ok (.new 22, 3) := by decide +kernel
theorem dX7_init_24 : decode cX7_init 24 = .ok (.dup, 1) := by decide +kernel
theorem dX7_init_25 : decode cX7_init 25 = .ok (.invokespecial 24, 3) := by decide +kernel
theorem dX7_init_28 : decode cX7_init 28 = .ok (.putfield 25, 3) := by decide +kernel
theorem dX7_init_31 : decode cX7_init 31 = .ok (.aload_n 0, 1) := by decide +kernel
theorem dX7_init_32 : decode cX7_init 32 = .ok (.new 29, 3) := by decide +kernel
theorem dX7_init_35 : decode cX7_init 35 = .ok (.dup, 1) := by decide +kernel
theorem dX7_init_36 : decode cX7_init 36 = .ok (.invokespecial 31, 3) := by decide +kernel
theorem dX7_init_39 : decode cX7_init 39 = .ok (.putfield 32, 3) := by decide +kernel
theorem dX7_init_42 : decode cX7_init 42 = .ok (.aload_n 0, 1) := by decide +kernel
theorem dX7_init_43 : decode cX7_init 43 = .ok (.new 36, 3) := by decide +kernel
theorem dX7_init_46 : decode cX7_init 46 = .ok (.dup, 1) := by decide +kernel
theorem dX7_init_47 : decode cX7_init 47 = .ok (.invokespecial 38, 3) := by decide +kernel
theorem dX7_init_50 : decode cX7_init 50 = .ok (.putfield 39, 3) := by decide +kernel
theorem dX7_init_53 : decode cX7_init 53 = .ok (.aload_n 0, 1) := by decide +kernel
theorem dX7_init_54 : decode cX7_init 54 = .ok (.new 36, 3) := by decide +kernel
theorem dX7_init_57 : decode cX7_init 57 = .ok (.dup, 1) := by decide +kernel
theorem dX7_init_58 : decode cX7_init 58 = .ok (.invokespecial 38, 3) := by decide +kernel
theorem dX7_init_61 : decode cX7_init 61 = .ok (.putfield 43, 3) := by decide +kernel
theorem dX7_init_64 : decode cX7_init 64 = .ok (.aload_n 0, 1) := by decide +kernel
theorem dX7_init_65 : decode cX7_init 65 = .ok (.new 46, 3) := by decide +kernel
theorem dX7_init_68 : decode cX7_init 68 = .ok (.dup, 1) := by decide +kernel
theorem dX7_init_69 : decode cX7_init 69 = .ok (.invokespecial 48, 3) := by decide +kernel
theorem dX7_init_72 : decode cX7_init 72 = .ok (.putfield 49, 3) := by decide +kernel
theorem dX7_init_75 : decode cX7_init 75 = .ok (.return_, 1) := by decide +kernel
theorem dX7_run_0 : decode cX7_run 0 = .ok (.aload_n 0, 1) := by decide +kernel
theorem dX7_run_1 : decode cX7_run 1 = .ok (.aload_n 1, 1) := by decide +kernel
theorem dX7_run_2 : decode cX7_run 2 = .ok (.getfield 53, 3) := by decide +kernel
theorem dX7_run_5 : decode cX7_run 5 = .ok (.putfield 59, 3) := by decide +kernel
theorem dX7_run_8 : decode cX7_run 8 = .ok (.aload_n 0, 1) := by decide +kernel
theorem dX7_run_9 : decode cX7_run 9 = .ok (.lload_n 2, 1) := by decide +kernel
theorem dX7_run_10 : decode cX7_run 10 = .ok (.putfield 60, 3) := by decide +kernel
theorem dX7_run_13 : decode cX7_run 13 = .ok (.aload_n 0, 1) := by decide +kernel
theorem dX7_run_14 : decode cX7_run 14 = .ok (.lload 4, 2) := by decide +kernel
theorem dX7_run_16 : decode cX7_run 16 = .ok (.putfield 9, 3) := by decide +kernel
theorem dX7_run_19 : decode cX7_run 19 = .ok (.aload_n 0, 1) := by decide +kernel
theorem dX7_run_20 : decode cX7_run 20 = .ok (.getfield 39, 3) := by decide +kernel
theorem dX7_run_23 : decode cX7_run 23 = .ok (.invokevirtual 63, 3) := by decide +kernel
theorem dX7_run_26 : decode cX7_run 26 = .ok (.aload_n 0, 1) := by decide +kernel
theorem dX7_run_27 : decode cX7_run 27 = .ok (.getfield 43, 3) := by decide +kernel
theorem dX7_run_30 : decode cX7_run 30 = .ok (.invokevirtual 63, 3) := by decide +kernel
theorem dX7_run_33 : decode cX7_run 33 = .ok (.aload_n 1, 1) := by decide +kernel
theorem dX7_run_34 : decode cX7_run 34 = .ok (.aload_n 0, 1) := by decide +kernel
theorem dX7_run_35 : decode cX7_run 35 = .ok (.getfield 60, 3) := by decide +kernel
theorem dX7_run_38 : decode cX7_run 38 = .ok (.aload_n 0, 1) := by decide +kernel
theorem dX7_run_39 : decode cX7_run 39 = .ok (.getfield 9, 3) := by decide +kernel
theorem dX7_run_42 : decode cX7_run 42 = .ok (.invokevirtual 66, 3) := by decide +kernel
theorem dX7_run_45 : decode cX7_run 45 = .ok (.ifCond .ne 7, 3) := by decide +kernel
theorem dX7_run_48 : decode cX7_run 48 = .ok (.sipush (-10003), 3) := by decide +kernel
theorem dX7_run_51 : decode cX7_run 51 = .ok (.ireturn, 1) := by decide +kernel
theorem dX7_run_52 : decode cX7_run 52 = .ok (.aload_n 0, 1) := by decide +kernel
theorem dX7_run_53 : decode cX7_run 53 = .ok (.getfield 18, 3) := by decide +kernel
theorem dX7_run_56 : decode cX7_run 56 = .ok (.aload_n 1, 1) := by decide +kernel
theorem dX7_run_57 : decode cX7_run 57 = .ok (.aload_n 0, 1) := by decide +kernel
theorem dX7_run_58 : decode cX7_run 58 = .ok (.getfield 60, 3) := by decide +kernel
theorem dX7_run_61 : decode cX7_run 61 = .ok (.aload_n 0, 1) := by decide +kernel
theorem dX7_run_62 : decode cX7_run 62 = .ok (.getfield 9, 3) := by decide +kernel
theorem dX7_run_65 : decode cX7_run 65 = .ok (.invokevirtual 70, 3) := by decide +kernel
theorem dX7_run_68 : decode cX7_run 68 = .ok (.aload_n 0, 1) := by decide +kernel
theorem dX7_run_69 : decode cX7_run 69 = .ok (.getfield 25, 3) := by decide +kernel
theorem dX7_run_72 : decode cX7_run 72 = .ok (.aload_n 0, 1) := by decide +kernel
theorem dX7_run_73 : decode cX7_run 73 = .ok (.getfield 18, 3) := by decide +kernel
theorem dX7_run_76 : decode cX7_run 76 = .ok (.invokevirtual 74, 3) := by decide +kernel
theorem dX7_run_79 : decode cX7_run 79 = .ok (.iconst 0, 1) := by decide +kernel
theorem dX7_run_80 : decode cX7_run 80 = .ok (.istore 6, 2) := by decide +kernel
theorem dX7_run_82 : decode cX7_run 82 = .ok (.iload 6, 2) := by decide +kernel
theorem dX7_run_84 : decode cX7_run 84 = .ok (.ldc 78, 2) := by decide +kernel
theorem dX7_run_86 : decode cX7_run 86 = .ok (.if_icmp .ge 99, 3) := by decide +kernel
theorem dX7_run_89 : decode cX7_run 89 = .ok (.aload_n 0, 1) := by decide +kernel
theorem dX7_run_90 : decode cX7_run 90 = .ok (.getfield 25, 3) := by decide +kernel
theorem dX7_run_93 : decode cX7_run 93 = .ok (.aload_n 0, 1) := by decide +kernel
theorem dX7_run_94 : decode cX7_run 94 = .ok (.getfield 18, 3) := by decide +kernel
theorem dX7_run_97 : decode cX7_run 97 = .ok (.invokevirtual 79, 3) := by decide +kernel
theorem dX7_run_100 : decode cX7_run 100 = .ok (.aload_n 0, 1) := by decide +kernel
theorem dX7_run_101 : decode cX7_run 101 = .ok (.invokevirtual 82, 3) := by decide +kernel
theorem dX7_run_104 : decode cX7_run 104 = .ok (.istore 7, 2) := by decide +kernel
theorem dX7_run_106 : decode cX7_run 106 = .ok (.iload 7, 2) := by decide +kernel
theorem dX7_run_108 : decode cX7_run 108 = .ok (.ifCond .ge 6, 3) := by decide +kernel
theorem dX7_run_111 : decode cX7_run 111 = .ok (.goto 74, 3) := by decide +kernel
theorem dX7_run_114 : decode cX7_run 114 = .ok (.aload_n 0, 1) := by decide +kernel
theorem dX7_run_115 : decode cX7_run 115 = .ok (.getfield 32, 3) := by decide +kernel
theorem dX7_run_118 : decode cX7_run 118 = .ok (.aload_n 0, 1) := by decide +kernel
theorem dX7_run_119 : decode cX7_run 119 = .ok (.getfield 18, 3) := by decide +kernel
theorem dX7_run_122 : decode cX7_run 122 = .ok (.aload_n 0, 1) := by decide +kernel
theorem dX7_run_123 : decode cX7_run 123 = .ok (.getfield 25, 3) := by decide +kernel
theorem dX7_run_126 : decode cX7_run 126 = .ok (.iload 7, 2) := by decide +kernel
theorem dX7_run_128 : decode cX7_run 128 = .ok (.invokevirtual 86, 3) := by decide +kernel
theorem dX7_run_131 : decode cX7_run 131 = .ok (.aload_n 0, 1) := by decide +kernel
theorem dX7_run_132 : decode cX7_run 132 = .ok (.getfield 32, 3) := by decide +kernel
theorem dX7_run_135 : decode cX7_run 135 = .ok (.aload_n 0, 1) := by decide +kernel
theorem dX7_run_136 : decode cX7_run 136 = .ok (.getfield 18, 3) := by decide +kernel
theorem dX7_run_139 : decode cX7_run 139 = .ok (.aload_n 0, 1) := by decide +kernel
theorem dX7_run_140 : decode cX7_run 140 = .ok (.getfield 25, 3) := by decide +kernel
theorem dX7_run_143 : decode cX7_run 143 = .ok (.invokevirtual 90, 3) := by decide +kernel
theorem dX7_run_146 : decode cX7_run 146 = .ok (.aload_n 0, 1) := by decide +kernel
theorem dX7_run_147 : decode cX7_run 147 = .ok (.getfield 39, 3) := by decide +kernel
theorem dX7_run_150 : decode cX7_run 150 = .ok (.iload 7, 2) := by decide +kernel
theorem dX7_run_152 : decode cX7_run 152 = .ok (.i2l, 1) := by decide +kernel
theorem dX7_run_153 : decode cX7_run 153 = .ok (.invokevirtual 94, 3) := by decide +kernel
theorem dX7_run_156 : decode cX7_run 156 = .ok (.aload_n 0, 1) := by decide +kernel
theorem dX7_run_157 : decode cX7_run 157 = .ok (.getfield 43, 3) := by decide +kernel
theorem dX7_run_160 : decode cX7_run 160 = .ok (.aload_n 0, 1) := by decide +kernel
theorem dX7_run_161 : decode cX7_run 161 = .ok (.getfield 32, 3) := by decide +kernel
theorem dX7_run_164 : decode cX7_run 164 = .ok (.aload_n 0, 1) := by decide +kernel
theorem dX7_run_165 : decode cX7_run 165 = .ok (.getfield 18, 3) := by decide +kernel
theorem dX7_run_168 : decode cX7_run 168 = .ok (.aload_n 0, 1) := by decide +kernel
theorem dX7_run_169 : decode cX7_run 169 = .ok (.getfield 25, 3) := by decide +kernel
theorem dX7_run_172 : decode cX7_run 172 = .ok (.invokevirtual 98, 3) := by decide +kernel
theorem dX7_run_175 : decode cX7_run 175 = .ok (.i2l, 1) := by decide +kernel
theorem dX7_run_176 : decode cX7_run 176 = .ok (.invokevirtual 94, 3) := by decide +kernel
theorem dX7_run_179 : decode cX7_run 179 = .ok (.iinc 6 1, 3) := by decide +kernel
theorem dX7_run_182 : decode cX7_run 182 = .ok (.goto (-100), 3) := by decide +kernel
theorem dX7_run_185 : decode cX7_run 185 = .ok (.aload_n 0, 1) := by decide +kernel
theorem dX7_run_186 : decode cX7_run 186 = .ok (.getfield 18, 3) := by decide +kernel
theorem dX7_run_189 : decode cX7_run 189 = .ok (.invokevirtual 102, 3) := by decide +kernel
theorem dX7_run_192 : decode cX7_run 192 = .ok (.ifCond .eq 9, 3) := by decide +kernel
theorem dX7_run_195 : decode cX7_run 195 = .ok (.sipush (-10004), 3) := by decide +kernel
theorem dX7_run_198 : decode cX7_run 198 = .ok (.goto 4, 3) := by decide +kernel
theorem dX7_run_201 : decode cX7_run 201 = .ok (.iconst 0, 1) := by decide +kernel
theorem dX7_run_202 : decode cX7_run 202 = .ok (.ireturn, 1) := by decide +kernel
theorem dX7_entering_0 : decode cX7_entering 0 = .ok (.iconst (-1), 1) := by decide +kernel
theorem dX7_entering_1 : decode cX7_entering 1 = .ok (.istore_n 1, 1) := by decide +kernel
theorem dX7_entering_2 : decode cX7_entering 2 = .ok (.lconst 0, 1) := by decide +kernel
theorem dX7_entering_3 : decode cX7_entering 3 = .ok (.lstore_n 2, 1) := by decide +kernel
theorem dX7_entering_4 : decode cX7_entering 4 = .ok (.iconst 0, 1) := by decide +kernel
theorem dX7_entering_5 : decode cX7_entering 5 = .ok (.istore 4, 2) := by decide +kernel
theorem dX7_entering_7 : decode cX7_entering 7 = .ok (.iload 4, 2) := by decide +kernel
theorem dX7_entering_9 : decode cX7_entering 9 = .ok (.aload_n 0, 1) := by decide +kernel
theorem dX7_entering_10 : decode cX7_entering 10 = .ok (.getfield 18, 3) := by decide +kernel
theorem dX7_entering_13 : decode cX7_entering 13 = .ok (.getfield 120, 3) := by decide +kernel
theorem dX7_entering_16 : decode cX7_entering 16 = .ok (.if_icmp .ge 72, 3) := by decide +kernel
theorem dX7_entering_19 : decode cX7_entering 19 = .ok (.lconst 0, 1) := by decide +kernel
theorem dX7_entering_20 : decode cX7_entering 20 = .ok (.lstore 5, 2) := by decide +kernel
theorem dX7_entering_22 : decode cX7_entering 22 = .ok (.aload_n 0, 1) := by decide +kernel
theorem dX7_entering_23 : decode cX7_entering 23 = .ok (.getfield 18, 3) := by decide +kernel
theorem dX7_entering_26 : decode cX7_entering 26 = .ok (.getfield 123, 3) := by decide +kernel
theorem dX7_entering_29 : decode cX7_entering 29 = .ok (.iload 4, 2) := by decide +kernel
theorem dX7_entering_31 : decode cX7_entering 31 = .ok (.iaload, 1) := by decide +kernel
theorem dX7_entering_32 : decode cX7_entering 32 = .ok (.ifCond .ne 15, 3) := by decide +kernel
theorem dX7_entering_35 : decode cX7_entering 35 = .ok (.aload_n 0, 1) := by decide +kernel
theorem dX7_entering_36 : decode cX7_entering 36 = .ok (.iload 4, 2) := by decide +kernel
theorem dX7_entering_38 : decode cX7_entering 38 = .ok (.invokevirtual 126, 3) := by decide +kernel
theorem dX7_entering_41 : decode cX7_entering 41 = .ok (.lneg, 1) := by decide +kernel
theorem dX7_entering_42 : decode cX7_entering 42 = .ok (.lstore 5, 2) := by decide +kernel
theorem dX7_entering_44 : decode cX7_entering 44 = .ok (.goto 25, 3) := by decide +kernel
theorem dX7_entering_47 : decode cX7_entering 47 = .ok (.aload_n 0, 1) := by decide +kernel
theorem dX7_entering_48 : decode cX7_entering 48 = .ok (.getfield 18, 3) := by decide +kernel
theorem dX7_entering_51 : decode cX7_entering 51 = .ok (.getfield 123, 3) := by decide +kernel
theorem dX7_entering_54 : decode cX7_entering 54 = .ok (.iload 4, 2) := by decide +kernel
theorem dX7_entering_56 : decode cX7_entering 56 = .ok (.iaload, 1) := by decide +kernel
theorem dX7_entering_57 : decode cX7_entering 57 = .ok (.iconst 1, 1) := by decide +kernel
theorem dX7_entering_58 : decode cX7_entering 58 = .ok (.if_icmp .ne 11, 3) := by decide +kernel
theorem dX7_entering_61 : decode cX7_entering 61 = .ok (.aload_n 0, 1) := by decide +kernel
theorem dX7_entering_62 : decode cX7_entering 62 = .ok (.iload 4, 2) := by decide +kernel
theorem dX7_entering_64 : decode cX7_entering 64 = .ok (.invokevirtual 126, 3) := by decide +kernel
theorem dX7_entering_67 : decode cX7_entering 67 = .ok (.lstore 5, 2) := by decide +kernel
theorem dX7_entering_69 : decode cX7_entering 69 = .ok (.lload 5, 2) := by decide +kernel
theorem dX7_entering_71 : decode cX7_entering 71 = .ok (.lload_n 2, 1) := by decide +kernel
theorem dX7_entering_72 : decode cX7_entering 72 = .ok (.lcmp, 1) := by decide +kernel
theorem dX7_entering_73 : decode cX7_entering 73 = .ok (.ifCond .le 9, 3) := by decide +kernel
theorem dX7_entering_76 : decode cX7_entering 76 = .ok (.lload 5, 2) := by decide +kernel
theorem dX7_entering_78 : decode cX7_entering 78 = .ok (.lstore_n 2, 1) := by decide +kernel
theorem dX7_entering_79 : decode cX7_entering 79 = .ok (.iload 4, 2) := by decide +kernel
theorem dX7_entering_81 : decode cX7_entering 81 = .ok (.istore_n 1, 1) := by decide +kernel
theorem dX7_entering_82 : decode cX7_entering 82 = .ok (.iinc 4 1, 3) := by decide +kernel
theorem dX7_entering_85 : decode cX7_entering 85 = .ok (.goto (-78), 3) := by decide +kernel
theorem dX7_entering_88 : decode cX7_entering 88 = .ok (.iload_n 1, 1) := by decide +kernel
theorem dX7_entering_89 : decode cX7_entering 89 = .ok (.ireturn, 1) := by decide +kernel
theorem dX7_rate_0 : decode cX7_rate 0 = .ok (.lconst 0, 1) := by decide +kernel
theorem dX7_rate_1 : decode cX7_rate 1 = .ok (.lstore_n 2, 1) := by decide +kernel
theorem dX7_rate_2 : decode cX7_rate 2 = .ok (.aload_n 0, 1) := by decide +kernel
theorem dX7_rate_3 : decode cX7_rate 3 = .ok (.getfield 59, 3) := by decide +kernel
theorem dX7_rate_6 : decode cX7_rate 6 = .ok (.ifCond .ne 49, 3) := by decide +kernel
theorem dX7_rate_9 : decode cX7_rate 9 = .ok (.iconst 0, 1) := by decide +kernel
theorem dX7_rate_10 : decode cX7_rate 10 = .ok (.istore 4, 2) := by decide +kernel
theorem dX7_rate_12 : decode cX7_rate 12 = .ok (.iload 4, 2) := by decide +kernel
theorem dX7_rate_14 : decode cX7_rate 14 = .ok (.aload_n 0, 1) := by decide +kernel
theorem dX7_rate_15 : decode cX7_rate 15 = .ok (.getfield 18, 3) := by decide +kernel
theorem dX7_rate_18 : decode cX7_rate 18 = .ok (.getfield 120, 3) := by decide +kernel
theorem dX7_rate_21 : decode cX7_rate 21 = .ok (.if_icmp .ge 31, 3) := by decide +kernel
theorem dX7_rate_24 : decode cX7_rate 24 = .ok (.lload_n 2, 1) := by decide +kernel
theorem dX7_rate_25 : decode cX7_rate 25 = .ok (.aload_n 0, 1) := by decide +kernel
theorem dX7_rate_26 : decode cX7_rate 26 = .ok (.getfield 18, 3) := by decide +kernel
theorem dX7_rate_29 : decode cX7_rate 29 = .ok (.getfield 130, 3) := by decide +kernel
theorem dX7_rate_32 : decode cX7_rate 32 = .ok (.iload 4, 2) := by decide +kernel
theorem dX7_rate_34 : decode cX7_rate 34 = .ok (.laload, 1) := by decide +kernel
theorem dX7_rate_35 : decode cX7_rate 35 = .ok (.aload_n 1, 1) := by decide +kernel
theorem dX7_rate_36 : decode cX7_rate 36 = .ok (.getfield 133, 3) := by decide +kernel
theorem dX7_rate_39 : decode cX7_rate 39 = .ok (.iload 4, 2) := by decide +kernel
theorem dX7_rate_41 : decode cX7_rate 41 = .ok (.iaload, 1) := by decide +kernel
theorem dX7_rate_42 : decode cX7_rate 42 = .ok (.i2l, 1) := by decide +kernel
theorem dX7_rate_43 : decode cX7_rate 43 = .ok (.lmul, 1) := by decide +kernel
theorem dX7_rate_44 : decode cX7_rate 44 = .ok (.ladd, 1) := by decide +kernel
theorem dX7_rate_45 : decode cX7_rate 45 = .ok (.lstore_n 2, 1) := by decide +kernel
theorem dX7_rate_46 : decode cX7_rate 46 = .ok (.iinc 4 1, 3) := by decide +kernel
theorem dX7_rate_49 : decode cX7_rate 49 = .ok (.goto (-37), 3) := by decide +kernel
theorem dX7_rate_52 : decode cX7_rate 52 = .ok (.goto 46, 3) := by decide +kernel
theorem dX7_rate_55 : decode cX7_rate 55 = .ok (.iconst 0, 1) := by decide +kernel
theorem dX7_rate_56 : decode cX7_rate 56 = .ok (.istore 4, 2) := by decide +kernel
theorem dX7_rate_58 : decode cX7_rate 58 = .ok (.iload 4, 2) := by decide +kernel
theorem dX7_rate_60 : decode cX7_rate 60 = .ok (.aload_n 0, 1) := by decide +kernel
theorem dX7_rate_61 : decode cX7_rate 61 = .ok (.getfield 18, 3) := by decide +kernel
theorem dX7_rate_64 : decode cX7_rate 64 = .ok (.getfield 136, 3) := by decide +kernel
theorem dX7_rate_67 : decode cX7_rate 67 = .ok (.if_icmp .ge 31, 3) := by decide +kernel
theorem dX7_rate_70 : decode cX7_rate 70 = .ok (.lload_n 2, 1) := by decide +kernel
theorem dX7_rate_71 : decode cX7_rate 71 = .ok (.aload_n 1, 1) := by decide +kernel
theorem dX7_rate_72 : decode cX7_rate 72 = .ok (.getfield 139, 3) := by decide +kernel
theorem dX7_rate_75 : decode cX7_rate 75 = .ok (.iload 4, 2) := by decide +kernel
theorem dX7_rate_77 : decode cX7_rate 77 = .ok (.iaload, 1) := by decide +kernel
theorem dX7_rate_78 : decode cX7_rate 78 = .ok (.i2l, 1) := by decide +kernel
theorem dX7_rate_79 : decode cX7_rate 79 = .ok (.aload_n 0, 1) := by decide +kernel
theorem dX7_rate_80 : decode cX7_rate 80 = .ok (.getfield 25, 3) := by decide +kernel
theorem dX7_rate_83 : decode cX7_rate 83 = .ok (.getfield 110, 3) := by decide +kernel
theorem dX7_rate_86 : decode cX7_rate 86 = .ok (.iload 4, 2) := by decide +kernel
theorem dX7_rate_88 : decode cX7_rate 88 = .ok (.laload, 1) := by decide +kernel
theorem dX7_rate_89 : decode cX7_rate 89 = .ok (.lmul, 1) := by decide +kernel
theorem dX7_rate_90 : decode cX7_rate 90 = .ok (.ladd, 1) := by decide +kernel
theorem dX7_rate_91 : decode cX7_rate 91 = .ok (.lstore_n 2, 1) := by decide +kernel
theorem dX7_rate_92 : decode cX7_rate 92 = .ok (.iinc 4 1, 3) := by decide +kernel
theorem dX7_rate_95 : decode cX7_rate 95 = .ok (.goto (-37), 3) := by decide +kernel
theorem dX7_rate_98 : decode cX7_rate 98 = .ok (.lload_n 2, 1) := by decide +kernel
theorem dX7_rate_99 : decode cX7_rate 99 = .ok (.lreturn, 1) := by decide +kernel
theorem dX8_init_0 : decode cX8_init 0 = .ok (.aload_n 0, 1) := by decide +kernel
theorem dX8_init_1 : decode cX8_init 1 = .ok (.invokespecial 3, 3) := by decide +kernel
theorem dX8_init_4 : decode cX8_init 4 = .ok (.aload_n 0, 1) := by decide +kernel
theorem dX8_init_5 : decode cX8_init 5 = .ok (.bipush 9, 2) := by decide +kernel
theorem dX8_init_7 : decode cX8_init 7 = .ok (.newarray .int, 2) := by decide +kernel
theorem dX8_init_9 : decode cX8_init 9 = .ok (.putfield 9, 3) := by decide +kernel
theorem dX8_init_12 : decode cX8_init 12 = .ok (.aload_n 0, 1) := by decide +kernel
theorem dX8_init_13 : decode cX8_init 13 = .ok (.bipush 9, 2) := by decide +kernel
theorem dX8_init_15 : decode cX8_init 15 = .ok (.newarray .int, 2) := by decide +kernel
theorem dX8_init_17 : decode cX8_init 17 = .ok (.putfield 15, 3) := by decide +kernel
theorem dX8_init_20 : decode cX8_init 20 = .ok (.aload_n 0, 1) := by decide +kernel
theorem dX8_init_21 : decode cX8_init 21 = .ok (.bipush 9, 2) := by decide +kernel
theorem dX8_init_23 : decode cX8_init 23 = .ok (.newarray .int, 2) := by decide +kernel
theorem dX8_init_25 : decode cX8_init 25 = .ok (.putfield 18, 3) := by decide +kernel
theorem dX8_init_28 : decode cX8_init 28 = .ok (.aload_n 0, 1) := by decide +kernel
theorem dX8_init_29 : decode cX8_init 29 = .ok (.bipush 9, 2) := by decide +kernel
theorem dX8_init_31 : decode cX8_init 31 = .ok (.newarray .long, 2) := by decide +kernel
theorem dX8_init_33 : decode cX8_init 33 = .ok (.putfield 21, 3) := by decide +kernel
theorem dX8_init_36 : decode cX8_init 36 = .ok (.aload_n 0, 1) := by decide +kernel
theorem dX8_init_37 : decode cX8_init 37 = .ok (.bipush 9, 2) := by decide +kernel
theorem dX8_init_39 : decode cX8_init 39 = .ok (.newarray .int, 2) := by decide +kernel
theorem dX8_init_41 : decode cX8_init 41 = .ok (.putfield 25, 3) := by decide +kernel
theorem dX8_init_44 : decode cX8_init 44 = .ok (.aload_n 0, 1) := by decide +kernel
theorem dX8_init_45 : decode cX8_init 45 = .ok (.bipush 9, 2) := by decide +kernel
theorem dX8_init_47 : decode cX8_init 47 = .ok (.newarray .int, 2) := by decide +kernel
theorem dX8_init_49 : decode cX8_init 49 = .ok (.putfield 28, 3) := by decide +kernel
theorem dX8_init_52 : decode cX8_init 52 = .ok (.aload_n 0, 1) := by decide +kernel
theorem dX8_init_53 : decode cX8_init 53 = .ok (.bipush 9, 2) := by decide +kernel
theorem dX8_init_55 : decode cX8_init 55 = .ok (.newarray .int, 2) := by decide +kernel
theorem dX8_init_57 : decode cX8_init 57 = .ok (.putfield 31, 3) := by decide +kernel
theorem dX8_init_60 : decode cX8_init 60 = .ok (.return_, 1) := by decide +kernel
theorem dX8_plant_0 : decode cX8_plant 0 = .ok (.aload_n 0, 1) := by decide +kernel
theorem dX8_plant_1 : decode cX8_plant 1 = .ok (.aload_n 1, 1) := by decide +kernel
theorem dX8_plant_2 : decode cX8_plant 2 = .ok (.getfield 34, 3) := by decide +kernel
theorem dX8_plant_5 : decode cX8_plant 5 = .ok (.putfield 40, 3) := by decide +kernel
theorem dX8_plant_8 : decode cX8_plant 8 = .ok (.aload_n 0, 1) := by decide +kernel
theorem dX8_plant_9 : decode cX8_plant 9 = .ok (.getfield 9, 3) := by decide +kernel
theorem dX8_plant_12 : decode cX8_plant 12 = .ok (.aload_n 0, 1) := by decide +kernel
theorem dX8_plant_13 : decode cX8_plant 13 = .ok (.getfield 40, 3) := by decide +kernel
theorem dX8_plant_16 : decode cX8_plant 16 = .ok (.aload_n 0, 1) := by decide +kernel
theorem dX8_plant_17 : decode cX8_plant 17 = .ok (.getfield 40, 3) := by decide +kernel
theorem dX8_plant_20 : decode cX8_plant 20 = .ok (.iastore, 1) := by decide +kernel
theorem dX8_plant_21 : decode cX8_plant 21 = .ok (.aload_n 0, 1) := by decide +kernel
theorem dX8_plant_22 : decode cX8_plant 22 = .ok (.getfield 18, 3) := by decide +kernel
theorem dX8_plant_25 : decode cX8_plant 25 = .ok (.aload_n 0, 1) := by decide +kernel
theorem dX8_plant_26 : decode cX8_plant 26 = .ok (.getfield 40, 3) := by decide +kernel
theorem dX8_plant_29 : decode cX8_plant 29 = .ok (.iconst 0, 1) := by decide +kernel
theorem dX8_plant_30 : decode cX8_plant 30 = .ok (.iastore, 1) := by decide +kernel
theorem dX8_plant_31 : decode cX8_plant 31 = .ok (.aload_n 0, 1) := by decide +kernel
theorem dX8_plant_32 : decode cX8_plant 32 = .ok (.getfield 21, 3) := by decide +kernel
theorem dX8_plant_35 : decode cX8_plant 35 = .ok (.aload_n 0, 1) := by decide +kernel
theorem dX8_plant_36 : decode cX8_plant 36 = .ok (.getfield 40, 3) := by decide +kernel
theorem dX8_plant_39 : decode cX8_plant 39 = .ok (.lconst 0, 1) := by decide +kernel
theorem dX8_plant_40 : decode cX8_plant 40 = .ok (.lastore, 1) := by decide +kernel
theorem dX8_plant_41 : decode cX8_plant 41 = .ok (.iconst 0, 1) := by decide +kernel
theorem dX8_plant_42 : decode cX8_plant 42 = .ok (.istore_n 2, 1) := by decide +kernel
theorem dX8_plant_43 : decode cX8_plant 43 = .ok (.iload_n 2, 1) := by decide +kernel
theorem dX8_plant_44 : decode cX8_plant 44 = .ok (.aload_n 0, 1) := by decide +kernel
theorem dX8_plant_45 : decode cX8_plant 45 = .ok (.getfield 40, 3) := by decide +kernel
theorem dX8_plant_48 : decode cX8_plant 48 = .ok (.if_icmp .ge 29, 3) := by decide +kernel
theorem dX8_plant_51 : decode cX8_plant 51 = .ok (.aload_n 0, 1) := by decide +kernel
theorem dX8_plant_52 : decode cX8_plant 52 = .ok (.getfield 9, 3) := by decide +kernel
theorem dX8_plant_55 : decode cX8_plant 55 = .ok (.iload_n 2, 1) := by decide +kernel
theorem dX8_plant_56 : decode cX8_plant 56 = .ok (.aload_n 0, 1) := by decide +kernel
theorem dX8_plant_57 : decode cX8_plant 57 = .ok (.getfield 40, 3) := by decide +kernel
theorem dX8_plant_60 : decode cX8_plant 60 = .ok (.iastore, 1) := by decide +kernel
theorem dX8_plant_61 : decode cX8_plant 61 = .ok (.aload_n 0, 1) := by decide +kernel
theorem dX8_plant_62 : decode cX8_plant 62 = .ok (.getfield 15, 3) := by decide +kernel
theorem dX8_plant_65 : decode cX8_plant 65 = .ok (.iload_n 2, 1) := by decide +kernel
theorem dX8_plant_66 : decode cX8_plant 66 = .ok (.bipush 20, 2) := by decide +kernel
theorem dX8_plant_68 : decode cX8_plant 68 = .ok (.iload_n 2, 1) := by decide +kernel
theorem dX8_plant_69 : decode cX8_plant 69 = .ok (.iadd, 1) := by decide +kernel
theorem dX8_plant_70 : decode cX8_plant 70 = .ok (.iastore, 1) := by decide +kernel
theorem dX8_plant_71 : decode cX8_plant 71 = .ok (.iinc 2 1, 3) := by decide +kernel
theorem dX8_plant_74 : decode cX8_plant 74 = .ok (.goto (-31), 3) := by decide +kernel
theorem dX8_plant_77 : decode cX8_plant 77 = .ok (.return_, 1) := by decide +kernel
theorem dX8_measure_0 : decode cX8_measure 0 = .ok (.iconst 0, 1) := by decide +kernel
theorem dX8_measure_1 : decode cX8_measure 1 = .ok (.istore_n 2, 1) := by decide +kernel
theorem dX8_measure_2 : decode cX8_measure 2 = .ok (.iload_n 2, 1) := by decide +kernel
theorem dX8_measure_3 : decode cX8_measure 3 = .ok (.aload_n 0, 1) := by decide +kernel
theorem dX8_measure_4 : decode cX8_measure 4 = .ok (.getfield 40, 3) := by decide +kernel
theorem dX8_measure_7 : decode cX8_measure 7 = .ok (.if_icmp .ge 106, 3) := by decide +kernel
theorem dX8_measure_10 : decode cX8_measure 10 = .ok (.iconst 0, 1) := by decide +kernel
theorem dX8_measure_11 : decode cX8_measure 11 = .ok (.istore_n 3, 1) := by decide +kernel
theorem dX8_measure_12 : decode cX8_measure 12 = .ok (.lconst 0, 1) := by decide +kernel
theorem dX8_measure_13 : decode cX8_measure 13 = .ok (.lstore 4, 2) := by decide +kernel
theorem dX8_measure_15 : decode cX8_measure 15 = .ok (.iload_n 2, 1) := by decide +kernel
theorem dX8_measure_16 : decode cX8_measure 16 = .ok (.istore 6, 2) := by decide +kernel
theorem dX8_measure_18 : decode cX8_measure 18 = .ok (.iload 6, 2) := by decide +kernel
theorem dX8_measure_20 : decode cX8_measure 20 = .ok (.aload_n 0, 1) := by decide +kernel
theorem dX8_measure_21 : decode cX8_measure 21 = .ok (.getfield 40, 3) := by decide +kernel
theorem dX8_measure_24 : decode cX8_measure 24 = .ok (.if_icmp .eq 68, 3) := by decide +kernel
theorem dX8_measure_27 : decode cX8_measure 27 = .ok (.iload_n 3, 1) := by decide +kernel
theorem dX8_measure_28 : decode cX8_measure 28 = .ok (.bipush 8, 2) := by decide +kernel
theorem dX8_measure_30 : decode cX8_measure 30 = .ok (.if_icmp .ge 62, 3) := by decide +kernel
theorem dX8_measure_33 : decode cX8_measure 33 = .ok (.aload_n 0, 1) := by decide +kernel
theorem dX8_measure_34 : decode cX8_measure 34 = .ok (.getfield 15, 3) := by decide +kernel
theorem dX8_measure_37 : decode cX8_measure 37 = .ok (.iload 6, 2) := by decide +kernel
theorem dX8_measure_39 : decode cX8_measure 39 = .ok (.iaload, 1) := by decide +kernel
theorem dX8_measure_40 : decode cX8_measure 40 = .ok (.istore 7, 2) := by decide +kernel
theorem dX8_measure_42 : decode cX8_measure 42 = .ok (.lload 4, 2) := by decide +kernel
theorem dX8_measure_44 : decode cX8_measure 44 = .ok (.aload_n 1, 1) := by decide +kernel
theorem dX8_measure_45 : decode cX8_measure 45 = .ok (.getfield 43, 3) := by decide +kernel
theorem dX8_measure_48 : decode cX8_measure 48 = .ok (.iload 7, 2) := by decide +kernel
theorem dX8_measure_50 : decode cX8_measure 50 = .ok (.iaload, 1) := by decide +kernel
theorem dX8_measure_51 : decode cX8_measure 51 = .ok (.iload 6, 2) := by decide +kernel
theorem dX8_measure_53 : decode cX8_measure 53 = .ok (.if_icmp .ne 13, 3) := by decide +kernel
theorem dX8_measure_56 : decode cX8_measure 56 = .ok (.aload_n 1, 1) := by decide +kernel
theorem dX8_measure_57 : decode cX8_measure 57 = .ok (.getfield 46, 3) := by decide +kernel
theorem dX8_measure_60 : decode cX8_measure 60 = .ok (.iload 7, 2) := by decide +kernel
theorem dX8_measure_62 : decode cX8_measure 62 = .ok (.laload, 1) := by decide +kernel
theorem dX8_measure_63 : decode cX8_measure 63 = .ok (.goto 11, 3) := by decide +kernel
theorem dX8_measure_66 : decode cX8_measure 66 = .ok (.aload_n 1, 1) := by decide +kernel
theorem dX8_measure_67 : decode cX8_measure 67 = .ok (.getfield 46, 3) := by decide +kernel
theorem dX8_measure_70 : decode cX8_measure 70 = .ok (.iload 7, 2) := by decide +kernel
theorem dX8_measure_72 : decode cX8_measure 72 = .ok (.laload, 1) := by decide +kernel
theorem dX8_measure_73 : decode cX8_measure 73 = .ok (.lneg, 1) := by decide +kernel
theorem dX8_measure_74 : decode cX8_measure 74 = .ok (.ladd, 1) := by decide +kernel
theorem dX8_measure_75 : decode cX8_measure 75 = .ok (.lstore 4, 2) := by decide +kernel
theorem dX8_measure_77 : decode cX8_measure 77 = .ok (.iinc 3 1, 3) := by decide +kernel
theorem dX8_measure_80 : decode cX8_measure 80 = .ok (.aload_n 0, 1) := by decide +kernel
theorem dX8_measure_81 : decode cX8_measure 81 = .ok (.getfield 9, 3) := by decide +kernel
theorem dX8_measure_84 : decode cX8_measure 84 = .ok (.iload 6, 2) := by decide +kernel
theorem dX8_measure_86 : decode cX8_measure 86 = .ok (.iaload, 1) := by decide +kernel
theorem dX8_measure_87 : decode cX8_measure 87 = .ok (.istore 6, 2) := by decide +kernel
theorem dX8_measure_89 : decode cX8_measure 89 = .ok (.goto (-71), 3) := by decide +kernel
theorem dX8_measure_92 : decode cX8_measure 92 = .ok (.aload_n 0, 1) := by decide +kernel
theorem dX8_measure_93 : decode cX8_measure 93 = .ok (.getfield 18, 3) := by decide +kernel
theorem dX8_measure_96 : decode cX8_measure 96 = .ok (.iload_n 2, 1) := by decide +kernel
theorem dX8_measure_97 : decode cX8_measure 97 = .ok (.iload_n 3, 1) := by decide +kernel
theorem dX8_measure_98 : decode cX8_measure 98 = .ok (.iastore, 1) := by decide +kernel
theorem dX8_measure_99 : decode cX8_measure 99 = .ok (.aload_n 0, 1) := by decide +kernel
theorem dX8_measure_100 : decode cX8_measure 100 = .ok (.getfield 21, 3) := by decide +kernel
theorem dX8_measure_103 : decode cX8_measure 103 = .ok (.iload_n 2, 1) := by decide +kernel
theorem dX8_measure_104 : decode cX8_measure 104 = .ok (.lload 4, 2) := by decide +kernel
theorem dX8_measure_106 : decode cX8_measure 106 = .ok (.lastore, 1) := by decide +kernel
theorem dX8_measure_107 : decode cX8_measure 107 = .ok (.iinc 2 1, 3) := by decide +kernel
theorem dX8_measure_110 : decode cX8_measure 110 = .ok (.goto (-108), 3) := by decide +kernel
theorem dX8_measure_113 : decode cX8_measure 113 = .ok (.return_, 1) := by decide +kernel
theorem dX8_leadsUp_0 : decode cX8_leadsUp 0 = .ok (.aload_n 1, 1) := by decide +kernel
theorem dX8_leadsUp_1 : decode cX8_leadsUp 1 = .ok (.getfield 43, 3) := by decide +kernel
theorem dX8_leadsUp_4 : decode cX8_leadsUp 4 = .ok (.aload_n 0, 1) := by decide +kernel
theorem dX8_leadsUp_5 : decode cX8_leadsUp 5 = .ok (.getfield 15, 3) := by decide +kernel
theorem dX8_leadsUp_8 : decode cX8_leadsUp 8 = .ok (.iload_n 2, 1) := by decide +kernel
theorem dX8_leadsUp_9 : decode cX8_leadsUp 9 = .ok (.iaload, 1) := by decide +kernel
theorem dX8_leadsUp_10 : decode cX8_leadsUp 10 = .ok (.iaload, 1) := by decide +kernel
theorem dX8_leadsUp_11 : decode cX8_leadsUp 11 = .ok (.iload_n 2, 1) := by decide +kernel
theorem dX8_leadsUp_12 : decode cX8_leadsUp 12 = .ok (.if_icmp .ne 7, 3) := by decide +kernel
theorem dX8_leadsUp_15 : decode cX8_leadsUp 15 = .ok (.iconst 1, 1) := by decide +kernel
theorem dX8_leadsUp_16 : decode cX8_leadsUp 16 = .ok (.goto 4, 3) := by decide +kernel
theorem dX8_leadsUp_19 : decode cX8_leadsUp 19 = .ok (.iconst 0, 1) := by decide +kernel
theorem dX8_leadsUp_20 : decode cX8_leadsUp 20 = .ok (.ireturn, 1) := by decide +kernel
theorem dX8_putInOrder_0 : decode cX8_putInOrder 0 = .ok (.iconst 1, 1) := by decide +kernel
theorem dX8_putInOrder_1 : decode cX8_putInOrder 1 = .ok (.istore_n 1, 1) := by decide +kernel
theorem dX8_putInOrder_2 : decode cX8_putInOrder 2 = .ok (.aload_n 0, 1) := by decide +kernel
theorem dX8_putInOrder_3 : decode cX8_putInOrder 3 = .ok (.getfield 31, 3) := by decide +kernel
theorem dX8_putInOrder_6 : decode cX8_putInOrder 6 = .ok (.iconst 0, 1) := by decide +kernel
theorem dX8_putInOrder_7 : decode cX8_putInOrder 7 = .ok (.aload_n 0, 1) := by decide +kernel
theorem dX8_putInOrder_8 : decode cX8_putInOrder 8 = .ok (.getfield 40, 3) := by decide +kernel
theorem dX8_putInOrder_11 : decode cX8_putInOrder 11 = .ok (.iastore, 1) := by decide +kernel
theorem dX8_putInOrder_12 : decode cX8_putInOrder 12 = .ok (.iconst 0, 1) := by decide +kernel
theorem dX8_putInOrder_13 : decode cX8_putInOrder 13 = .ok (.istore_n 2, 1) := by decide +kernel
theorem dX8_putInOrder_14 : decode cX8_putInOrder 14 = .ok (.iload_n 2, 1) := by decide +kernel
theorem dX8_putInOrder_15 : decode cX8_putInOrder 15 = .ok (.aload_n 0, 1) := by decide +kernel
theorem dX8_putInOrder_16 : decode cX8_putInOrder 16 = .ok (.getfield 40, 3) := by decide +kernel
theorem dX8_putInOrder_19 : decode cX8_putInOrder 19 = .ok (.if_icmp .gt 80, 3) := by decide +kernel
theorem dX8_putInOrder_22 : decode cX8_putInOrder 22 = .ok (.iload_n 1, 1) := by decide +kernel
theorem dX8_putInOrder_23 : decode cX8_putInOrder 23 = .ok (.ifCond .le 76, 3) := by decide +kernel
theorem dX8_putInOrder_26 : decode cX8_putInOrder 26 = .ok (.iinc 1 (-1), 3) := by decide +kernel
theorem dX8_putInOrder_29 : decode cX8_putInOrder 29 = .ok (.aload_n 0, 1) := by decide +kernel
theorem dX8_putInOrder_30 : decode cX8_putInOrder 30 = .ok (.getfield 31, 3) := by decide +kernel
theorem dX8_putInOrder_33 : decode cX8_putInOrder 33 = .ok (.iload_n 1, 1) := by decide +kernel
theorem dX8_putInOrder_34 : decode cX8_putInOrder 34 = .ok (.iaload, 1) := by decide +kernel
theorem dX8_putInOrder_35 : decode cX8_putInOrder 35 = .ok (.istore_n 3, 1) := by decide +kernel
theorem dX8_putInOrder_36 : decode cX8_putInOrder 36 = .ok (.aload_n 0, 1) := by decide +kernel
theorem dX8_putInOrder_37 : decode cX8_putInOrder 37 = .ok (.getfield 28, 3) := by decide +kernel
theorem dX8_putInOrder_40 : decode cX8_putInOrder 40 = .ok (.iload_n 2, 1) := by decide +kernel
theorem dX8_putInOrder_41 : decode cX8_putInOrder 41 = .ok (.iload_n 3, 1) := by decide +kernel
theorem dX8_putInOrder_42 : decode cX8_putInOrder 42 = .ok (.iastore, 1) := by decide +kernel
theorem dX8_putInOrder_43 : decode cX8_putInOrder 43 = .ok (.aload_n 0, 1) := by decide +kernel
theorem dX8_putInOrder_44 : decode cX8_putInOrder 44 = .ok (.getfield 40, 3) := by decide +kernel
theorem dX8_putInOrder_47 : decode cX8_putInOrder 47 = .ok (.iconst 1, 1) := by decide +kernel
theorem dX8_putInOrder_48 : decode cX8_putInOrder 48 = .ok (.isub, 1) := by decide +kernel
theorem dX8_putInOrder_49 : decode cX8_putInOrder 49 = .ok (.istore 4, 2) := by decide +kernel
theorem dX8_putInOrder_51 : decode cX8_putInOrder 51 = .ok (.iload 4, 2) := by decide +kernel
theorem dX8_putInOrder_53 : decode cX8_putInOrder 53 = .ok (.ifCond .lt 40, 3) := by decide +kernel
theorem dX8_putInOrder_56 : decode cX8_putInOrder 56 = .ok (.aload_n 0, 1) := by decide +kernel
theorem dX8_putInOrder_57 : decode cX8_putInOrder 57 = .ok (.getfield 9, 3) := by decide +kernel
theorem dX8_putInOrder_60 : decode cX8_putInOrder 60 = .ok (.iload 4, 2) := by decide +kernel
theorem dX8_putInOrder_62 : decode cX8_putInOrder 62 = .ok (.iaload, 1) := by decide +kernel
theorem dX8_putInOrder_63 : decode cX8_putInOrder 63 = .ok (.iload_n 3, 1) := by decide +kernel
theorem dX8_putInOrder_64 : decode cX8_putInOrder 64 = .ok (.if_icmp .ne 23, 3) := by decide +kernel
theorem dX8_putInOrder_67 : decode cX8_putInOrder 67 = .ok (.iload_n 1, 1) := by decide +kernel
theorem dX8_putInOrder_68 : decode cX8_putInOrder 68 = .ok (.aload_n 0, 1) := by decide +kernel
theorem dX8_putInOrder_69 : decode cX8_putInOrder 69 = .ok (.getfield 31, 3) := by decide +kernel
theorem dX8_putInOrder_72 : decode cX8_putInOrder 72 = .ok (.arraylength, 1) := by decide +kernel
theorem dX8_putInOrder_73 : decode cX8_putInOrder 73 = .ok (.if_icmp .ge 14, 3) := by decide +kernel
theorem dX8_putInOrder_76 : decode cX8_putInOrder 76 = .ok (.aload_n 0, 1) := by decide +kernel
theorem dX8_putInOrder_77 : decode cX8_putInOrder 77 = .ok (.getfield 31, 3) := by decide +kernel
theorem dX8_putInOrder_80 : decode cX8_putInOrder 80 = .ok (.iload_n 1, 1) := by decide +kernel
theorem dX8_putInOrder_81 : decode cX8_putInOrder 81 = .ok (.iload 4, 2) := by decide +kernel
theorem dX8_putInOrder_83 : decode cX8_putInOrder 83 = .ok (.iastore, 1) := by decide +kernel
theorem dX8_putInOrder_84 : decode cX8_putInOrder 84 = .ok (.iinc 1 1, 3) := by decide +kernel
theorem dX8_putInOrder_87 : decode cX8_putInOrder 87 = .ok (.iinc 4 (-1), 3) := by decide +kernel
theorem dX8_putInOrder_90 : decode cX8_putInOrder 90 = .ok (.goto (-39), 3) := by decide +kernel
theorem dX8_putInOrder_93 : decode cX8_putInOrder 93 = .ok (.iinc 2 1, 3) := by decide +kernel
theorem dX8_putInOrder_96 : decode cX8_putInOrder 96 = .ok (.goto (-82), 3) := by decide +kernel
theorem dX8_putInOrder_99 : decode cX8_putInOrder 99 = .ok (.aload_n 0, 1) := by decide +kernel
theorem dX8_putInOrder_100 : decode cX8_putInOrder 100 = .ok (.getfield 25, 3) := by decide +kernel
theorem dX8_putInOrder_103 : decode cX8_putInOrder 103 = .ok (.iconst 0, 1) := by decide +kernel
theorem dX8_putInOrder_104 : decode cX8_putInOrder 104 = .ok (.invokestatic 49, 3) := by decide +kernel
theorem dX8_putInOrder_107 : decode cX8_putInOrder 107 = .ok (.iconst 0, 1) := by decide +kernel
theorem dX8_putInOrder_108 : decode cX8_putInOrder 108 = .ok (.istore_n 2, 1) := by decide +kernel
theorem dX8_putInOrder_109 : decode cX8_putInOrder 109 = .ok (.iload_n 2, 1) := by decide +kernel
theorem dX8_putInOrder_110 : decode cX8_putInOrder 110 = .ok (.aload_n 0, 1) := by decide +kernel
theorem dX8_putInOrder_111 : decode cX8_putInOrder 111 = .ok (.getfield 40, 3) := by decide +kernel
theorem dX8_putInOrder_114 : decode cX8_putInOrder 114 = .ok (.if_icmp .ge 55, 3) := by decide +kernel
theorem dX8_putInOrder_117 : decode cX8_putInOrder 117 = .ok (.iconst 0, 1) := by decide +kernel
theorem dX8_putInOrder_118 : decode cX8_putInOrder 118 = .ok (.istore_n 3, 1) := by decide +kernel
theorem dX8_putInOrder_119 : decode cX8_putInOrder 119 = .ok (.iload_n 2, 1) := by decide +kernel
theorem dX8_putInOrder_120 : decode cX8_putInOrder 120 = .ok (.istore 4, 2) := by decide +kernel
theorem dX8_putInOrder_122 : decode cX8_putInOrder 122 = .ok (.iload 4, 2) := by decide +kernel
theorem dX8_putInOrder_124 : decode cX8_putInOrder 124 = .ok (.aload_n 0, 1) := by decide +kernel
theorem dX8_putInOrder_125 : decode cX8_putInOrder 125 = .ok (.getfield 40, 3) := by decide +kernel
theorem dX8_putInOrder_128 : decode cX8_putInOrder 128 = .ok (.if_icmp .eq 35, 3) := by decide +kernel
theorem dX8_putInOrder_131 : decode cX8_putInOrder 131 = .ok (.iload_n 3, 1) := by decide +kernel
theorem dX8_putInOrder_132 : decode cX8_putInOrder 132 = .ok (.bipush 8, 2) := by decide +kernel
theorem dX8_putInOrder_134 : decode cX8_putInOrder 134 = .ok (.if_icmp .ge 29, 3) := by decide +kernel
theorem dX8_putInOrder_137 : decode cX8_putInOrder 137 = .ok (.aload_n 0, 1) := by decide +kernel
theorem dX8_putInOrder_138 : decode cX8_putInOrder 138 = .ok (.getfield 25, 3) := by decide +kernel
theorem dX8_putInOrder_141 : decode cX8_putInOrder 141 = .ok (.iload 4, 2) := by decide +kernel
theorem dX8_putInOrder_143 : decode cX8_putInOrder 143 = .ok (.dup2, 1) := by decide +kernel
theorem dX8_putInOrder_144 : decode cX8_putInOrder 144 = .ok (.iaload, 1) := by decide +kernel
theorem dX8_putInOrder_145 : decode cX8_putInOrder 145 = .ok (.iconst 1, 1) := by decide +kernel
theorem dX8_putInOrder_146 : decode cX8_putInOrder 146 = .ok (.iadd, 1) := by decide +kernel
theorem dX8_putInOrder_147 : decode cX8_putInOrder 147 = .ok (.iastore, 1) := by decide +kernel
theorem dX8_putInOrder_148 : decode cX8_putInOrder 148 = .ok (.iinc 3 1, 3) := by decide +kernel
theorem dX8_putInOrder_151 : decode cX8_putInOrder 151 = .ok (.aload_n 0, 1) := by decide +kernel
theorem dX8_putInOrder_152 : decode cX8_putInOrder 152 = .ok (.getfield 9, 3) := by decide +kernel
theorem dX8_putInOrder_155 : decode cX8_putInOrder 155 = .ok (.iload 4, 2) := by decide +kernel
theorem dX8_putInOrder_157 : decode cX8_putInOrder 157 = .ok (.iaload, 1) := by decide +kernel
theorem dX8_putInOrder_158 : decode cX8_putInOrder 158 = .ok (.istore 4, 2) := by decide +kernel
theorem dX8_putInOrder_160 : decode cX8_putInOrder 160 = .ok (.goto (-38), 3) := by decide +kernel
theorem dX8_putInOrder_163 : decode cX8_putInOrder 163 = .ok (.iinc 2 1, 3) := by decide +kernel
theorem dX8_putInOrder_166 : decode cX8_putInOrder 166 = .ok (.goto (-57), 3) := by decide +kernel
theorem dX8_putInOrder_169 : decode cX8_putInOrder 169 = .ok (.return_, 1) := by decide +kernel
theorem dX9_init_0 : decode cX9_init 0 = .ok (.aload_n 0, 1) := by decide +kernel
theorem dX9_init_1 : decode cX9_init 1 = .ok (.invokespecial 5, 3) := by decide +kernel
theorem dX9_init_4 : decode cX9_init 4 = .ok (.aload_n 0, 1) := by decide +kernel
theorem dX9_init_5 : decode cX9_init 5 = .ok (.new 11, 3) := by decide +kernel
theorem dX9_init_8 : decode cX9_init 8 = .ok (.dup, 1) := by decide +kernel
theorem dX9_init_9 : decode cX9_init 9 = .ok (.invokespecial 13, 3) := by decide +kernel
theorem dX9_init_12 : decode cX9_init 12 = .ok (.putfield 14, 3) := by decide +kernel
theorem dX9_init_15 : decode cX9_init 15 = .ok (.aload_n 0, 1) := by decide +kernel
theorem dX9_init_16 : decode cX9_init 16 = .ok (.new 18, 3) := by decide +kernel
theorem dX9_init_19 : decode cX9_init 19 = .ok (.dup, 1) := by decide +kernel
theorem dX9_init_20 : decode cX9_init 20 = .ok (.invokespecial 20, 3) := by decide +kernel
theorem dX9_init_23 : decode cX9_init 23 = .ok (.putfield 21, 3) := by decide +kernel
theorem dX9_init_26 : decode cX9_init 26 = .ok (.aload_n 0, 1) := by decide +kernel
theorem dX9_init_27 : decode cX9_init 27 = .ok (.new 25, 3) := by decide +kernel
theorem dX9_init_30 : decode cX9_init 30 = .ok (.dup, 1) := by decide +kernel
theorem dX9_init_31 : decode cX9_init 31 = .ok (.invokespecial 27, 3) := by decide +kernel
theorem dX9_init_34 : decode cX9_init 34 = .ok (.putfield 28, 3) := by decide +kernel
theorem dX9_init_37 : decode cX9_init 37 = .ok (.aload_n 0, 1) := by decide +kernel
theorem dX9_init_38 : decode cX9_init 38 = .ok (.new 25, 3) := by decide +kernel
theorem dX9_init_41 : decode cX9_init 41 = .ok (.dup, 1) := by decide +kernel
theorem dX9_init_42 : decode cX9_init 42 = .ok (.invokespecial 27, 3) := by decide +kernel
theorem dX9_init_45 : decode cX9_init 45 = .ok (.putfield 32, 3) := by decide +kernel
theorem dX9_init_48 : decode cX9_init 48 = .ok (.return_, 1) := by decide +kernel
theorem dX9_reset_0 : decode cX9_reset 0 = .ok (.iload_n 1, 1) := by decide +kernel
theorem dX9_reset_1 : decode cX9_reset 1 = .ok (.iconst 2, 1) := by decide +kernel
theorem dX9_reset_2 : decode cX9_reset 2 = .ok (.bipush 8, 2) := by decide +kernel
theorem dX9_reset_4 : decode cX9_reset 4 = .ok (.invokestatic 35, 3) := by decide +kernel
theorem dX9_reset_7 : decode cX9_reset 7 = .ok (.ifCond .ne 7, 3) := by decide +kernel
theorem dX9_reset_10 : decode cX9_reset 10 = .ok (.sipush (-10002), 3) := by decide +kernel
theorem dX9_reset_13 : decode cX9_reset 13 = .ok (.ireturn, 1) := by decide +kernel
theorem dX9_reset_14 : decode cX9_reset 14 = .ok (.aload_n 0, 1) := by decide +kernel
theorem dX9_reset_15 : decode cX9_reset 15 = .ok (.getfield 14, 3) := by decide +kernel
theorem dX9_reset_18 : decode cX9_reset 18 = .ok (.getfield 39, 3) := by decide +kernel
theorem dX9_reset_21 : decode cX9_reset 21 = .ok (.istore_n 2, 1) := by decide +kernel
theorem dX9_reset_22 : decode cX9_reset 22 = .ok (.aload_n 0, 1) := by decide +kernel
theorem dX9_reset_23 : decode cX9_reset 23 = .ok (.getfield 14, 3) := by decide +kernel
theorem dX9_reset_26 : decode cX9_reset 26 = .ok (.iload_n 1, 1) := by decide +kernel
theorem dX9_reset_27 : decode cX9_reset 27 = .ok (.invokevirtual 43, 3) := by decide +kernel
theorem dX9_reset_30 : decode cX9_reset 30 = .ok (.aload_n 0, 1) := by decide +kernel
theorem dX9_reset_31 : decode cX9_reset 31 = .ok (.invokevirtual 47, 3) := by decide +kernel
theorem dX9_reset_34 : decode cX9_reset 34 = .ok (.iload_n 2, 1) := by decide +kernel
theorem dX9_reset_35 : decode cX9_reset 35 = .ok (.ireturn, 1) := by decide +kernel
theorem dX9_addArc_0 : decode cX9_addArc 0 = .ok (.aload_n 0, 1) := by decide +kernel
theorem dX9_addArc_1 : decode cX9_addArc 1 = .ok (.getfield 14, 3) := by decide +kernel
theorem dX9_addArc_4 : decode cX9_addArc 4 = .ok (.iload_n 1, 1) := by decide +kernel
theorem dX9_addArc_5 : decode cX9_addArc 5 = .ok (.invokevirtual 50, 3) := by decide +kernel
theorem dX9_addArc_8 : decode cX9_addArc 8 = .ok (.ifCond .eq 14, 3) := by decide +kernel
theorem dX9_addArc_11 : decode cX9_addArc 11 = .ok (.aload_n 0, 1) := by decide +kernel
theorem dX9_addArc_12 : decode cX9_addArc 12 = .ok (.getfield 14, 3) := by decide +kernel
theorem dX9_addArc_15 : decode cX9_addArc 15 = .ok (.iload_n 2, 1) := by decide +kernel
theorem dX9_addArc_16 : decode cX9_addArc 16 = .ok (.invokevirtual 50, 3) := by decide +kernel
theorem dX9_addArc_19 : decode cX9_addArc 19 = .ok (.ifCond .ne 7, 3) := by decide +kernel
theorem dX9_addArc_22 : decode cX9_addArc 22 = .ok (.sipush (-10001), 3) := by decide +kernel
theorem dX9_addArc_25 : decode cX9_addArc 25 = .ok (.ireturn, 1) := by decide +kernel
theorem dX9_addArc_26 : decode cX9_addArc 26 = .ok (.iload_n 1, 1) := by decide +kernel
theorem dX9_addArc_27 : decode cX9_addArc 27 = .ok (.iload_n 2, 1) := by decide +kernel
theorem dX9_addArc_28 : decode cX9_addArc 28 = .ok (.if_icmp .eq 38, 3) := by decide +kernel
theorem dX9_addArc_31 : decode cX9_addArc 31 = .ok (.iload_n 3, 1) := by decide +kernel
theorem dX9_addArc_32 : decode cX9_addArc 32 = .ok (.iconst 1, 1) := by decide +kernel
theorem dX9_addArc_33 : decode cX9_addArc 33 = .ok (.sipush 1000, 3) := by decide +kernel
theorem dX9_addArc_36 : decode cX9_addArc 36 = .ok (.invokestatic 35, 3) := by decide +kernel
theorem dX9_addArc_39 : decode cX9_addArc 39 = .ok (.ifCond .eq 27, 3) := by decide +kernel
theorem dX9_addArc_42 : decode cX9_addArc 42 = .ok (.iload 4, 2) := by decide +kernel
theorem dX9_addArc_44 : decode cX9_addArc 44 = .ok (.bipush (-100), 2) := by decide +kernel
theorem dX9_addArc_46 : decode cX9_addArc 46 = .ok (.bipush 100, 2) := by decide +kernel
theorem dX9_addArc_48 : decode cX9_addArc 48 = .ok (.invokestatic 35, 3) := by decide +kernel
theorem dX9_addArc_51 : decode cX9_addArc 51 = .ok (.ifCond .eq 15, 3) := by decide +kernel
theorem dX9_addArc_54 : decode cX9_addArc 54 = .ok (.iload 5, 2) := by decide +kernel
theorem dX9_addArc_56 : decode cX9_addArc 56 = .ok (.bipush (-20), 2) := by decide +kernel
theorem dX9_addArc_58 : decode cX9_addArc 58 = .ok (.bipush 20, 2) := by decide +kernel
theorem dX9_addArc_60 : decode cX9_addArc 60 = .ok (.invokestatic 35, 3) := by decide +kernel
theorem dX9_addArc_63 : decode cX9_addArc 63 = .ok (.ifCond .ne 7, 3) := by decide +kernel
theorem dX9_addArc_66 : decode cX9_addArc 66 = .ok (.sipush (-10002), 3) := by decide +kernel
theorem dX9_addArc_69 : decode cX9_addArc 69 = .ok (.ireturn, 1) := by decide +kernel
theorem dX9_addArc_70 : decode cX9_addArc 70 = .ok (.aload_n 0, 1) := by decide +kernel
theorem dX9_addArc_71 : decode cX9_addArc 71 = .ok (.getfield 14, 3) := by decide +kernel
theorem dX9_addArc_74 : decode cX9_addArc 74 = .ok (.getfield 54, 3) := by decide +kernel
theorem dX9_addArc_77 : decode cX9_addArc 77 = .ok (.bipush 20, 2) := by decide +kernel
theorem dX9_addArc_79 : decode cX9_addArc 79 = .ok (.if_icmp .lt 7, 3) := by decide +kernel
theorem dX9_addArc_82 : decode cX9_addArc 82 = .ok (.sipush (-10006), 3) := by decide +kernel
theorem dX9_addArc_85 : decode cX9_addArc 85 = .ok (.ireturn, 1) := by decide +kernel
theorem dX9_addArc_86 : decode cX9_addArc 86 = .ok (.aload_n 0, 1) := by decide +kernel
theorem dX9_addArc_87 : decode cX9_addArc 87 = .ok (.getfield 14, 3) := by decide +kernel
theorem dX9_addArc_90 : decode cX9_addArc 90 = .ok (.getfield 54, 3) := by decide +kernel
theorem dX9_addArc_93 : decode cX9_addArc 93 = .ok (.istore 6, 2) := by decide +kernel
theorem dX9_addArc_95 : decode cX9_addArc 95 = .ok (.aload_n 0, 1) := by decide +kernel
theorem dX9_addArc_96 : decode cX9_addArc 96 = .ok (.getfield 14, 3) := by decide +kernel
theorem dX9_addArc_99 : decode cX9_addArc 99 = .ok (.getfield 57, 3) := by decide +kernel
theorem dX9_addArc_102 : decode cX9_addArc 102 = .ok (.iload 6, 2) := by decide +kernel
theorem dX9_addArc_104 : decode cX9_addArc 104 = .ok (.iload_n 1, 1) := by decide +kernel
theorem dX9_addArc_105 : decode cX9_addArc 105 = .ok (.iastore, 1) := by decide +kernel
theorem dX9_addArc_106 : decode cX9_addArc 106 = .ok (.aload_n 0, 1) := by decide +kernel
theorem dX9_addArc_107 : decode cX9_addArc 107 = .ok (.getfield 14, 3) := by decide +kernel
theorem dX9_addArc_110 : decode cX9_addArc 110 = .ok (.getfield 61, 3) := by decide +kernel
theorem dX9_addArc_113 : decode cX9_addArc 113 = .ok (.iload 6, 2) := by decide +kernel
theorem dX9_addArc_115 : decode cX9_addArc 115 = .ok (.iload_n 2, 1) := by decide +kernel
theorem dX9_addArc_116 : decode cX9_addArc 116 = .ok (.iastore, 1) := by decide +kernel
theorem dX9_addArc_117 : decode cX9_addArc 117 = .ok (.aload_n 0, 1) := by decide +kernel
theorem dX9_addArc_118 : decode cX9_addArc 118 = .ok (.getfield 14, 3) := by decide +kernel
theorem dX9_addArc_121 : decode cX9_addArc 121 = .ok (.getfield 64, 3) := by decide +kernel
theorem dX9_addArc_124 : decode cX9_addArc 124 = .ok (.iload 6, 2) := by decide +kernel
theorem dX9_addArc_126 : decode cX9_addArc 126 = .ok (.iload_n 3, 1) := by decide +kernel
theorem dX9_addArc_127 : decode cX9_addArc 127 = .ok (.iastore, 1) := by decide +kernel
theorem dX9_addArc_128 : decode cX9_addArc 128 = .ok (.aload_n 0, 1) := by decide +kernel
theorem dX9_addArc_129 : decode cX9_addArc 129 = .ok (.getfield 14, 3) := by decide +kernel
theorem dX9_addArc_132 : decode cX9_addArc 132 = .ok (.getfield 67, 3) := by decide +kernel
theorem dX9_addArc_135 : decode cX9_addArc 135 = .ok (.iload 6, 2) := by decide +kernel
theorem dX9_addArc_137 : decode cX9_addArc 137 = .ok (.iload 4, 2) := by decide +kernel
theorem dX9_addArc_139 : decode cX9_addArc 139 = .ok (.iastore, 1) := by decide +kernel
theorem dX9_addArc_140 : decode cX9_addArc 140 = .ok (.aload_n 0, 1) := by decide +kernel
theorem dX9_addArc_141 : decode cX9_addArc 141 = .ok (.getfield 14, 3) := by decide +kernel
theorem dX9_addArc_144 : decode cX9_addArc 144 = .ok (.getfield 70, 3) := by decide +kernel
theorem dX9_addArc_147 : decode cX9_addArc 147 = .ok (.iload 6, 2) := by decide +kernel
theorem dX9_addArc_149 : decode cX9_addArc 149 = .ok (.iload 5, 2) := by decide +kernel
theorem dX9_addArc_151 : decode cX9_addArc 151 = .ok (.iastore, 1) := by decide +kernel
theorem dX9_addArc_152 : decode cX9_addArc 152 = .ok (.aload_n 0, 1) := by decide +kernel
theorem dX9_addArc_153 : decode cX9_addArc 153 = .ok (.getfield 14, 3) := by decide +kernel
theorem dX9_addArc_156 : decode cX9_addArc 156 = .ok (.dup, 1) := by decide +kernel
theorem dX9_addArc_157 : decode cX9_addArc 157 = .ok (.getfield 54, 3) := by decide +kernel
theorem dX9_addArc_160 : decode cX9_addArc 160 = .ok (.iconst 1, 1) := by decide +kernel
theorem dX9_addArc_161 : decode cX9_addArc 161 = .ok (.iadd, 1) := by decide +kernel
theorem dX9_addArc_162 : decode cX9_addArc 162 = .ok (.putfield 54, 3) := by decide +kernel
theorem dX9_addArc_165 : decode cX9_addArc 165 = .ok (.aload_n 0, 1) := by decide +kernel
theorem dX9_addArc_166 : decode cX9_addArc 166 = .ok (.invokevirtual 47, 3) := by decide +kernel
theorem dX9_addArc_169 : decode cX9_addArc 169 = .ok (.iload 6, 2) := by decide +kernel
theorem dX9_addArc_171 : decode cX9_addArc 171 = .ok (.ireturn, 1) := by decide +kernel
theorem dX9_removeArc_0 : decode cX9_removeArc 0 = .ok (.aload_n 0, 1) := by decide +kernel
theorem dX9_removeArc_1 : decode cX9_removeArc 1 = .ok (.getfield 14, 3) := by decide +kernel
theorem dX9_removeArc_4 : decode cX9_removeArc 4 = .ok (.getfield 54, 3) := by decide +kernel
theorem dX9_removeArc_7 : decode cX9_removeArc 7 = .ok (.ifCond .ne 7, 3) := by decide +kernel
theorem dX9_removeArc_10 : decode cX9_removeArc 10 = .ok (.sipush (-10007), 3) := by decide +kernel
theorem dX9_removeArc_13 : decode cX9_removeArc 13 = .ok (.ireturn, 1) := by decide +kernel
theorem dX9_removeArc_14 : decode cX9_removeArc 14 = .ok (.aload_n 0, 1) := by decide +kernel
theorem dX9_removeArc_15 : decode cX9_removeArc 15 = .ok (.getfield 14, 3) := by decide +kernel
theorem dX9_removeArc_18 : decode cX9_removeArc 18 = .ok (.dup, 1) := by decide +kernel
theorem dX9_removeArc_19 : decode cX9_removeArc 19 = .ok (.getfield 54, 3) := by decide +kernel
theorem dX9_removeArc_22 : decode cX9_removeArc 22 = .ok (.iconst 1, 1) := by decide +kernel
theorem dX9_removeArc_23 : decode cX9_removeArc 23 = .ok (.isub, 1) := by decide +kernel
theorem dX9_removeArc_24 : decode cX9_removeArc 24 = .ok (.putfield 54, 3) := by decide +kernel
theorem dX9_removeArc_27 : decode cX9_removeArc 27 = .ok (.aload_n 0, 1) := by decide +kernel
theorem dX9_removeArc_28 : decode cX9_removeArc 28 = .ok (.invokevirtual 47, 3) := by decide +kernel
theorem dX9_removeArc_31 : decode cX9_removeArc 31 = .ok (.aload_n 0, 1) := by decide +kernel
theorem dX9_removeArc_32 : decode cX9_removeArc 32 = .ok (.getfield 14, 3) := by decide +kernel
theorem dX9_removeArc_35 : decode cX9_removeArc 35 = .ok (.getfield 54, 3) := by decide +kernel
theorem dX9_removeArc_38 : decode cX9_removeArc 38 = .ok (.ireturn, 1) := by decide +kernel
theorem dX9_setArc_0 : decode cX9_setArc 0 = .ok (.aload_n 0, 1) := by decide +kernel
theorem dX9_setArc_1 : decode cX9_setArc 1 = .ok (.getfield 14, 3) := by decide +kernel
theorem dX9_setArc_4 : decode cX9_setArc 4 = .ok (.iload_n 1, 1) := by decide +kernel
theorem dX9_setArc_5 : decode cX9_setArc 5 = .ok (.invokevirtual 73, 3) := by decide +kernel
theorem dX9_setArc_8 : decode cX9_setArc 8 = .ok (.ifCond .ne 7, 3) := by decide +kernel
theorem dX9_setArc_11 : decode cX9_setArc 11 = .ok (.sipush (-10001), 3) := by decide +kernel
theorem dX9_setArc_14 : decode cX9_setArc 14 = .ok (.ireturn, 1) := by decide +kernel
theorem dX9_setArc_15 : decode cX9_setArc 15 = .ok (.iload_n 2, 1) := by decide +kernel
theorem dX9_setArc_16 : decode cX9_setArc 16 = .ok (.ifCond .ne 38, 3) := by decide +kernel
theorem dX9_setArc_19 : decode cX9_setArc 19 = .ok (.iload_n 3, 1) := by decide +kernel
theorem dX9_setArc_20 : decode cX9_setArc 20 = .ok (.iconst 1, 1) := by decide +kernel
theorem dX9_setArc_21 : decode cX9_setArc 21 = .ok (.sipush 1000, 3) := by decide +kernel
theorem dX9_setArc_24 : decode cX9_setArc 24 = .ok (.invokestatic 35, 3) := by decide +kernel
theorem dX9_setArc_27 : decode cX9_setArc 27 = .ok (.ifCond .eq 27, 3) := by decide +kernel
theorem dX9_setArc_30 : decode cX9_setArc 30 = .ok (.aload_n 0, 1) := by decide +kernel
theorem dX9_setArc_31 : decode cX9_setArc 31 = .ok (.getfield 14, 3) := by decide +kernel
theorem dX9_setArc_34 : decode cX9_setArc 34 = .ok (.getfield 64, 3) := by decide +kernel
theorem dX9_setArc_37 : decode cX9_setArc 37 = .ok (.iload_n 1, 1) := by decide +kernel
theorem dX9_setArc_38 : decode cX9_setArc 38 = .ok (.iaload, 1) := by decide +kernel
theorem dX9_setArc_39 : decode cX9_setArc 39 = .ok (.istore 4, 2) := by decide +kernel
theorem dX9_setArc_41 : decode cX9_setArc 41 = .ok (.aload_n 0, 1) := by decide +kernel
theorem dX9_setArc_42 : decode cX9_setArc 42 = .ok (.getfield 14, 3) := by decide +kernel
theorem dX9_setArc_45 : decode cX9_setArc 45 = .ok (.getfield 64, 3) := by decide +kernel
theorem dX9_setArc_48 : decode cX9_setArc 48 = .ok (.iload_n 1, 1) := by decide +kernel
theorem dX9_setArc_49 : decode cX9_setArc 49 = .ok (.iload_n 3, 1) := by decide +kernel
theorem dX9_setArc_50 : decode cX9_setArc 50 = .ok (.iastore, 1) := by decide +kernel
theorem dX9_setArc_51 : decode cX9_setArc 51 = .ok (.goto 87, 3) := by decide +kernel
theorem dX9_setArc_54 : decode cX9_setArc 54 = .ok (.iload_n 2, 1) := by decide +kernel
theorem dX9_setArc_55 : decode cX9_setArc 55 = .ok (.iconst 1, 1) := by decide +kernel
theorem dX9_setArc_56 : decode cX9_setArc 56 = .ok (.if_icmp .ne 38, 3) := by decide +kernel
theorem dX9_setArc_59 : decode cX9_setArc 59 = .ok (.iload_n 3, 1) := by decide +kernel
theorem dX9_setArc_60 : decode cX9_setArc 60 = .ok (.bipush (-100), 2) := by decide +kernel
theorem dX9_setArc_62 : decode cX9_setArc 62 = .ok (.bipush 100, 2) := by decide +kernel
theorem dX9_setArc_64 : decode cX9_setArc 64 = .ok (.invokestatic 35, 3) := by decide +kernel
theorem dX9_setArc_67 : decode cX9_setArc 67 = .ok (.ifCond .eq 27, 3) := by decide +kernel
theorem dX9_setArc_70 : decode cX9_setArc 70 = .ok (.aload_n 0, 1) := by decide +kernel
theorem dX9_setArc_71 : decode cX9_setArc 71 = .ok (.getfield 14, 3) := by decide +kernel
theorem dX9_setArc_74 : decode cX9_setArc 74 = .ok (.getfield 67, 3) := by decide +kernel
theorem dX9_setArc_77 : decode cX9_setArc 77 = .ok (.iload_n 1, 1) := by decide +kernel
theorem dX9_setArc_78 : decode cX9_setArc 78 = .ok (.iaload, 1) := by decide +kernel
theorem dX9_setArc_79 : decode cX9_setArc 79 = .ok (.istore 4, 2) := by decide +kernel
theorem dX9_setArc_81 : decode cX9_setArc 81 = .ok (.aload_n 0, 1) := by decide +kernel
theorem dX9_setArc_82 : decode cX9_setArc 82 = .ok (.getfield 14, 3) := by decide +kernel
theorem dX9_setArc_85 : decode cX9_setArc 85 = .ok (.getfield 67, 3) := by decide +kernel
theorem dX9_setArc_88 : decode cX9_setArc 88 = .ok (.iload_n 1, 1) := by decide +kernel
theorem dX9_setArc_89 : decode cX9_setArc 89 = .ok (.iload_n 3, 1) := by decide +kernel
theorem dX9_setArc_90 : decode cX9_setArc 90 = .ok (.iastore, 1) := by decide +kernel
theorem dX9_setArc_91 : decode cX9_setArc 91 = .ok (.goto 47, 3) := by decide +kernel
theorem dX9_setArc_94 : decode cX9_setArc 94 = .ok (.iload_n 2, 1) := by decide +kernel
theorem dX9_setArc_95 : decode cX9_setArc 95 = .ok (.iconst 2, 1) := by decide +kernel
theorem dX9_setArc_96 : decode cX9_setArc 96 = .ok (.if_icmp .ne 38, 3) := by decide +kernel
theorem dX9_setArc_99 : decode cX9_setArc 99 = .ok (.iload_n 3, 1) := by decide +kernel
theorem dX9_setArc_100 : decode cX9_setArc 100 = .ok (.bipush (-20), 2) := by decide +kernel
theorem dX9_setArc_102 : decode cX9_setArc 102 = .ok (.bipush 20, 2) := by decide +kernel
theorem dX9_setArc_104 : decode cX9_setArc 104 = .ok (.invokestatic 35, 3) := by decide +kernel
theorem dX9_setArc_107 : decode cX9_setArc 107 = .ok (.ifCond .eq 27, 3) := by decide +kernel
theorem dX9_setArc_110 : decode cX9_setArc 110 = .ok (.aload_n 0, 1) := by decide +kernel
theorem dX9_setArc_111 : decode cX9_setArc 111 = .ok (.getfield 14, 3) := by decide +kernel
theorem dX9_setArc_114 : decode cX9_setArc 114 = .ok (.getfield 70, 3) := by decide +kernel
theorem dX9_setArc_117 : decode cX9_setArc 117 = .ok (.iload_n 1, 1) := by decide +kernel
theorem dX9_setArc_118 : decode cX9_setArc 118 = .ok (.iaload, 1) := by decide +kernel
theorem dX9_setArc_119 : decode cX9_setArc 119 = .ok (.istore 4, 2) := by decide +kernel
theorem dX9_setArc_121 : decode cX9_setArc 121 = .ok (.aload_n 0, 1) := by decide +kernel
theorem dX9_setArc_122 : decode cX9_setArc 122 = .ok (.getfield 14, 3) := by decide +kernel
theorem dX9_setArc_125 : decode cX9_setArc 125 = .ok (.getfield 70, 3) := by decide +kernel
theorem dX9_setArc_128 : decode cX9_setArc 128 = .ok (.iload_n 1, 1) := by decide +kernel
theorem dX9_setArc_129 : decode cX9_setArc 129 = .ok (.iload_n 3, 1) := by decide +kernel
theorem dX9_setArc_130 : decode cX9_setArc 130 = .ok (.iastore, 1) := by decide +kernel
theorem dX9_setArc_131 : decode cX9_setArc 131 = .ok (.goto 7, 3) := by decide +kernel
theorem dX9_setArc_134 : decode cX9_setArc 134 = .ok (.sipush (-10002), 3) := by decide +kernel
theorem dX9_setArc_137 : decode cX9_setArc 137 = .ok (.ireturn, 1) := by decide +kernel
theorem dX9_setArc_138 : decode cX9_setArc 138 = .ok (.aload_n 0, 1) := by decide +kernel
theorem dX9_setArc_139 : decode cX9_setArc 139 = .ok (.invokevirtual 47, 3) := by decide +kernel
theorem dX9_setArc_142 : decode cX9_setArc 142 = .ok (.iload 4, 2) := by decide +kernel
theorem dX9_setArc_144 : decode cX9_setArc 144 = .ok (.ireturn, 1) := by decide +kernel
theorem dX9_setSupply_0 : decode cX9_setSupply 0 = .ok (.aload_n 0, 1) := by decide +kernel
theorem dX9_setSupply_1 : decode cX9_setSupply 1 = .ok (.getfield 14, 3) := by decide +kernel
theorem dX9_setSupply_4 : decode cX9_setSupply 4 = .ok (.iload_n 1, 1) := by decide +kernel
theorem dX9_setSupply_5 : decode cX9_setSupply 5 = .ok (.invokevirtual 50, 3) := by decide +kernel
theorem dX9_setSupply_8 : decode cX9_setSupply 8 = .ok (.ifCond .ne 7, 3) := by decide +kernel
theorem dX9_setSupply_11 : decode cX9_setSupply 11 = .ok (.sipush (-10001), 3) := by decide +kernel
theorem dX9_setSupply_14 : decode cX9_setSupply 14 = .ok (.ireturn, 1) := by decide +kernel
theorem dX9_setSupply_15 : decode cX9_setSupply 15 = .ok (.iload_n 2, 1) := by decide +kernel
theorem dX9_setSupply_16 : decode cX9_setSupply 16 = .ok (.sipush (-500), 3) := by decide +kernel
theorem dX9_setSupply_19 : decode cX9_setSupply 19 = .ok (.sipush 500, 3) := by decide +kernel
theorem dX9_setSupply_22 : decode cX9_setSupply 22 = .ok (.invokestatic 35, 3) := by decide +kernel
theorem dX9_setSupply_25 : decode cX9_setSupply 25 = .ok (.ifCond .eq 14, 3) := by decide +kernel
theorem dX9_setSupply_28 : decode cX9_setSupply 28 = .ok (.iload_n 3, 1) := by decide +kernel
theorem dX9_setSupply_29 : decode cX9_setSupply 29 = .ok (.bipush (-20), 2) := by decide +kernel
theorem dX9_setSupply_31 : decode cX9_setSupply 31 = .ok (.bipush 20, 2) := by decide +kernel
theorem dX9_setSupply_33 : decode cX9_setSupply 33 = .ok (.invokestatic 35, 3) := by decide +kernel
theorem dX9_setSupply_36 : decode cX9_setSupply 36 = .ok (.ifCond .ne 7, 3) := by decide +kernel
theorem dX9_setSupply_39 : decode cX9_setSupply 39 = .ok (.sipush (-10002), 3) := by decide +kernel
theorem dX9_setSupply_42 : decode cX9_setSupply 42 = .ok (.ireturn, 1) := by decide +kernel
theorem dX9_setSupply_43 : decode cX9_setSupply 43 = .ok (.aload_n 0, 1) := by decide +kernel
theorem dX9_setSupply_44 : decode cX9_setSupply 44 = .ok (.getfield 14, 3) := by decide +kernel
theorem dX9_setSupply_47 : decode cX9_setSupply 47 = .ok (.getfield 76, 3) := by decide +kernel
theorem dX9_setSupply_50 : decode cX9_setSupply 50 = .ok (.iload_n 1, 1) := by decide +kernel
theorem dX9_setSupply_51 : decode cX9_setSupply 51 = .ok (.iaload, 1) := by decide +kernel
theorem dX9_setSupply_52 : decode cX9_setSupply 52 = .ok (.iload_n 2, 1) := by decide +kernel
theorem dX9_setSupply_53 : decode cX9_setSupply 53 = .ok (.if_icmp .ne 20, 3) := by decide +kernel
theorem dX9_setSupply_56 : decode cX9_setSupply 56 = .ok (.aload_n 0, 1) := by decide +kernel
theorem dX9_setSupply_57 : decode cX9_setSupply 57 = .ok (.getfield 14, 3) := by decide +kernel
theorem dX9_setSupply_60 : decode cX9_setSupply 60 = .ok (.getfield 79, 3) := by decide +kernel
theorem dX9_setSupply_63 : decode cX9_setSupply 63 = .ok (.iload_n 1, 1) := by decide +kernel
theorem dX9_setSupply_64 : decode cX9_setSupply 64 = .ok (.iaload, 1) := by decide +kernel
theorem dX9_setSupply_65 : decode cX9_setSupply 65 = .ok (.iload_n 3, 1) := by decide +kernel
theorem dX9_setSupply_66 : decode cX9_setSupply 66 = .ok (.if_icmp .ne 7, 3) := by decide +kernel
theorem dX9_setSupply_69 : decode cX9_setSupply 69 = .ok (.iconst 1, 1) := by decide +kernel
theorem dX9_setSupply_70 : decode cX9_setSupply 70 = .ok (.goto 4, 3) := by decide +kernel
theorem dX9_setSupply_73 : decode cX9_setSupply 73 = .ok (.iconst 0, 1) := by decide +kernel
theorem dX9_setSupply_74 : decode cX9_setSupply 74 = .ok (.istore 4, 2) := by decide +kernel
theorem dX9_setSupply_76 : decode cX9_setSupply 76 = .ok (.aload_n 0, 1) := by decide +kernel
theorem dX9_setSupply_77 : decode cX9_setSupply 77 = .ok (.getfield 14, 3) := by decide +kernel
theorem dX9_setSupply_80 : decode cX9_setSupply 80 = .ok (.getfield 76, 3) := by decide +kernel
theorem dX9_setSupply_83 : decode cX9_setSupply 83 = .ok (.iload_n 1, 1) := by decide +kernel
theorem dX9_setSupply_84 : decode cX9_setSupply 84 = .ok (.iload_n 2, 1) := by decide +kernel
theorem dX9_setSupply_85 : decode cX9_setSupply 85 = .ok (.iastore, 1) := by decide +kernel
theorem dX9_setSupply_86 : decode cX9_setSupply 86 = .ok (.aload_n 0, 1) := by decide +kernel
theorem dX9_setSupply_87 : decode cX9_setSupply 87 = .ok (.getfield 14, 3) := by decide +kernel
theorem dX9_setSupply_90 : decode cX9_setSupply 90 = .ok (.getfield 79, 3) := by decide +kernel
theorem dX9_setSupply_93 : decode cX9_setSupply 93 = .ok (.iload_n 1, 1) := by decide +kernel
theorem dX9_setSupply_94 : decode cX9_setSupply 94 = .ok (.iload_n 3, 1) := by decide +kernel
theorem dX9_setSupply_95 : decode cX9_setSupply 95 = .ok (.iastore, 1) := by decide +kernel
theorem dX9_setSupply_96 : decode cX9_setSupply 96 = .ok (.aload_n 0, 1) := by decide +kernel
theorem dX9_setSupply_97 : decode cX9_setSupply 97 = .ok (.invokevirtual 47, 3) := by decide +kernel
theorem dX9_setSupply_100 : decode cX9_setSupply 100 = .ok (.iload 4, 2) := by decide +kernel
theorem dX9_setSupply_102 : decode cX9_setSupply 102 = .ok (.ifCond .eq 7, 3) := by decide +kernel
theorem dX9_setSupply_105 : decode cX9_setSupply 105 = .ok (.iconst 0, 1) := by decide +kernel
theorem dX9_setSupply_106 : decode cX9_setSupply 106 = .ok (.goto 4, 3) := by decide +kernel
theorem dX9_setSupply_109 : decode cX9_setSupply 109 = .ok (.iconst 1, 1) := by decide +kernel
theorem dX9_setSupply_110 : decode cX9_setSupply 110 = .ok (.ireturn, 1) := by decide +kernel
theorem dX9_setMode_0 : decode cX9_setMode 0 = .ok (.iload_n 1, 1) := by decide +kernel
theorem dX9_setMode_1 : decode cX9_setMode 1 = .ok (.ifCond .eq 12, 3) := by decide +kernel
theorem dX9_setMode_4 : decode cX9_setMode 4 = .ok (.iload_n 1, 1) := by decide +kernel
theorem dX9_setMode_5 : decode cX9_setMode 5 = .ok (.iconst 1, 1) := by decide +kernel
theorem dX9_setMode_6 : decode cX9_setMode 6 = .ok (.if_icmp .eq 7, 3) := by decide +kernel
theorem dX9_setMode_9 : decode cX9_setMode 9 = .ok (.sipush (-10002), 3) := by decide +kernel
theorem dX9_setMode_12 : decode cX9_setMode 12 = .ok (.ireturn, 1) := by decide +kernel
theorem dX9_setMode_13 : decode cX9_setMode 13 = .ok (.aload_n 0, 1) := by decide +kernel
theorem dX9_setMode_14 : decode cX9_setMode 14 = .ok (.getfield 14, 3) := by decide +kernel
theorem dX9_setMode_17 : decode cX9_setMode 17 = .ok (.getfield 82, 3) := by decide +kernel
theorem dX9_setMode_20 : decode cX9_setMode 20 = .ok (.istore_n 2, 1) := by decide +kernel
theorem dX9_setMode_21 : decode cX9_setMode 21 = .ok (.aload_n 0, 1) := by decide +kernel
theorem dX9_setMode_22 : decode cX9_setMode 22 = .ok (.getfield 14, 3) := by decide +kernel
theorem dX9_setMode_25 : decode cX9_setMode 25 = .ok (.iload_n 1, 1) := by decide +kernel
theorem dX9_setMode_26 : decode cX9_setMode 26 = .ok (.putfield 82, 3) := by decide +kernel
theorem dX9_setMode_29 : decode cX9_setMode 29 = .ok (.aload_n 0, 1) := by decide +kernel
theorem dX9_setMode_30 : decode cX9_setMode 30 = .ok (.invokevirtual 47, 3) := by decide +kernel
theorem dX9_setMode_33 : decode cX9_setMode 33 = .ok (.iload_n 2, 1) := by decide +kernel
theorem dX9_setMode_34 : decode cX9_setMode 34 = .ok (.ireturn, 1) := by decide +kernel
theorem dX9_arc_0 : decode cX9_arc 0 = .ok (.aload_n 0, 1) := by decide +kernel
theorem dX9_arc_1 : decode cX9_arc 1 = .ok (.getfield 14, 3) := by decide +kernel
theorem dX9_arc_4 : decode cX9_arc 4 = .ok (.iload_n 1, 1) := by decide +kernel
theorem dX9_arc_5 : decode cX9_arc 5 = .ok (.invokevirtual 73, 3) := by decide +kernel
theorem dX9_arc_8 : decode cX9_arc 8 = .ok (.ifCond .ne 7, 3) := by decide +kernel
theorem dX9_arc_11 : decode cX9_arc 11 = .ok (.sipush (-10001), 3) := by decide +kernel
theorem dX9_arc_14 : decode cX9_arc 14 = .ok (.ireturn, 1) := by decide +kernel
theorem dX9_arc_15 : decode cX9_arc 15 = .ok (.iload_n 2, 1) := by decide +kernel
theorem dX9_arc_16 : decode cX9_arc 16 = .ok (.tableswitch 86 0 4 #[36, 46, 56, 66, 76], 36) := by decide +kernel
theorem dX9_arc_52 : decode cX9_arc 52 = .ok (.aload_n 0, 1) := by decide +kernel
theorem dX9_arc_53 : decode cX9_arc 53 = .ok (.getfield 14, 3) := by decide +kernel
theorem dX9_arc_56 : decode cX9_arc 56 = .ok (.getfield 57, 3) := by decide +kernel
theorem dX9_arc_59 : decode cX9_arc 59 = .ok (.iload_n 1, 1) := by decide +kernel
theorem dX9_arc_60 : decode cX9_arc 60 = .ok (.iaload, 1) := by decide +kernel
theorem dX9_arc_61 : decode cX9_arc 61 = .ok (.ireturn, 1) := by decide +kernel
theorem dX9_arc_62 : decode cX9_arc 62 = .ok (.aload_n 0, 1) := by decide +kernel
theorem dX9_arc_63 : decode cX9_arc 63 = .ok (.getfield 14, 3) := by decide +kernel
theorem dX9_arc_66 : decode cX9_arc 66 = .ok (.getfield 61, 3) := by decide +kernel
theorem dX9_arc_69 : decode cX9_arc 69 = .ok (.iload_n 1, 1) := by decide +kernel
theorem dX9_arc_70 : decode cX9_arc 70 = .ok (.iaload, 1) := by decide +kernel
theorem dX9_arc_71 : decode cX9_arc 71 = .ok (.ireturn, 1) := by decide +kernel
theorem dX9_arc_72 : decode cX9_arc 72 = .ok (.aload_n 0, 1) := by decide +kernel
theorem dX9_arc_73 : decode cX9_arc 73 = .ok (.getfield 14, 3) := by decide +kernel
theorem dX9_arc_76 : decode cX9_arc 76 = .ok (.getfield 64, 3) := by decide +kernel
theorem dX9_arc_79 : decode cX9_arc 79 = .ok (.iload_n 1, 1) := by decide +kernel
theorem dX9_arc_80 : decode cX9_arc 80 = .ok (.iaload, 1) := by decide +kernel
theorem dX9_arc_81 : decode cX9_arc 81 = .ok (.ireturn, 1) := by decide +kernel
theorem dX9_arc_82 : decode cX9_arc 82 = .ok (.aload_n 0, 1) := by decide +kernel
theorem dX9_arc_83 : decode cX9_arc 83 = .ok (.getfield 14, 3) := by decide +kernel
theorem dX9_arc_86 : decode cX9_arc 86 = .ok (.getfield 67, 3) := by decide +kernel
theorem dX9_arc_89 : decode cX9_arc 89 = .ok (.iload_n 1, 1) := by decide +kernel
theorem dX9_arc_90 : decode cX9_arc 90 = .ok (.iaload, 1) := by decide +kernel
theorem dX9_arc_91 : decode cX9_arc 91 = .ok (.ireturn, 1) := by decide +kernel
theorem dX9_arc_92 : decode cX9_arc 92 = .ok (.aload_n 0, 1) := by decide +kernel
theorem dX9_arc_93 : decode cX9_arc 93 = .ok (.getfield 14, 3) := by decide +kernel
theorem dX9_arc_96 : decode cX9_arc 96 = .ok (.getfield 70, 3) := by decide +kernel
theorem dX9_arc_99 : decode cX9_arc 99 = .ok (.iload_n 1, 1) := by decide +kernel
theorem dX9_arc_100 : decode cX9_arc 100 = .ok (.iaload, 1) := by decide +kernel
theorem dX9_arc_101 : decode cX9_arc 101 = .ok (.ireturn, 1) := by decide +kernel
theorem dX9_arc_102 : decode cX9_arc 102 = .ok (.sipush (-10002), 3) := by decide +kernel
theorem dX9_arc_105 : decode cX9_arc 105 = .ok (.ireturn, 1) := by decide +kernel
theorem dX9_network_0 : decode cX9_network 0 = .ok (.iload_n 1, 1) := by decide +kernel
theorem dX9_network_1 : decode cX9_network 1 = .ok (.tableswitch 106 0 5 #[39, 47, 55, 63, 78, 93], 39) := by decide +kernel
theorem dX9_network_40 : decode cX9_network 40 = .ok (.aload_n 0, 1) := by decide +kernel
theorem dX9_network_41 : decode cX9_network 41 = .ok (.getfield 14, 3) := by decide +kernel
theorem dX9_network_44 : decode cX9_network 44 = .ok (.getfield 39, 3) := by decide +kernel
theorem dX9_network_47 : decode cX9_network 47 = .ok (.ireturn, 1) := by decide +kernel
theorem dX9_network_48 : decode cX9_network 48 = .ok (.aload_n 0, 1) := by decide +kernel
theorem dX9_network_49 : decode cX9_network 49 = .ok (.getfield 14, 3) := by decide +kernel
theorem dX9_network_52 : decode cX9_network 52 = .ok (.getfield 54, 3) := by decide +kernel
theorem dX9_network_55 : decode cX9_network 55 = .ok (.ireturn, 1) := by decide +kernel
theorem dX9_network_56 : decode cX9_network 56 = .ok (.aload_n 0, 1) := by decide +kernel
theorem dX9_network_57 : decode cX9_network 57 = .ok (.getfield 14, 3) := by decide +kernel
theorem dX9_network_60 : decode cX9_network 60 = .ok (.getfield 82, 3) := by decide +kernel
theorem dX9_network_63 : decode cX9_network 63 = .ok (.ireturn, 1) := by decide +kernel
theorem dX9_network_64 : decode cX9_network 64 = .ok (.aload_n 0, 1) := by decide +kernel
theorem dX9_network_65 : decode cX9_network 65 = .ok (.getfield 14, 3) := by decide +kernel
theorem dX9_network_68 : decode cX9_network 68 = .ok (.aload_n 0, 1) := by decide +kernel
theorem dX9_network_69 : decode cX9_network 69 = .ok (.getfield 14, 3) := by decide +kernel
theorem dX9_network_72 : decode cX9_network 72 = .ok (.getfield 76, 3) := by decide +kernel
theorem dX9_network_75 : decode cX9_network 75 = .ok (.invokevirtual 85, 3) := by decide +kernel
theorem dX9_network_78 : decode cX9_network 78 = .ok (.ireturn, 1) := by decide +kernel
theorem dX9_network_79 : decode cX9_network 79 = .ok (.aload_n 0, 1) := by decide +kernel
theorem dX9_network_80 : decode cX9_network 80 = .ok (.getfield 14, 3) := by decide +kernel
theorem dX9_network_83 : decode cX9_network 83 = .ok (.aload_n 0, 1) := by decide +kernel
theorem dX9_network_84 : decode cX9_network 84 = .ok (.getfield 14, 3) := by decide +kernel
theorem dX9_network_87 : decode cX9_network 87 = .ok (.getfield 79, 3) := by decide +kernel
theorem dX9_network_90 : decode cX9_network 90 = .ok (.invokevirtual 85, 3) := by decide +kernel
theorem dX9_network_93 : decode cX9_network 93 = .ok (.ireturn, 1) := by decide +kernel
theorem dX9_network_94 : decode cX9_network 94 = .ok (.aload_n 0, 1) := by decide +kernel
theorem dX9_network_95 : decode cX9_network 95 = .ok (.getfield 89, 3) := by decide +kernel
theorem dX9_network_98 : decode cX9_network 98 = .ok (.ifCond .eq 7, 3) := by decide +kernel
theorem dX9_network_101 : decode cX9_network 101 = .ok (.iconst 1, 1) := by decide +kernel
theorem dX9_network_102 : decode cX9_network 102 = .ok (.goto 4, 3) := by decide +kernel
theorem dX9_network_105 : decode cX9_network 105 = .ok (.iconst 0, 1) := by decide +kernel
theorem dX9_network_106 : decode cX9_network 106 = .ok (.ireturn, 1) := by decide +kernel
theorem dX9_network_107 : decode cX9_network 107 = .ok (.sipush (-10002), 3) := by decide +kernel
theorem dX9_network_110 : decode cX9_network 110 = .ok (.ireturn, 1) := by decide +kernel
theorem dX9_solve_0 : decode cX9_solve 0 = .ok (.iload_n 1, 1) := by decide +kernel
theorem dX9_solve_1 : decode cX9_solve 1 = .ok (.iload_n 2, 1) := by decide +kernel
theorem dX9_solve_2 : decode cX9_solve 2 = .ok (.invokestatic 93, 3) := by decide +kernel
theorem dX9_solve_5 : decode cX9_solve 5 = .ok (.ifCond .ne 7, 3) := by decide +kernel
theorem dX9_solve_8 : decode cX9_solve 8 = .ok (.sipush (-10002), 3) := by decide +kernel
theorem dX9_solve_11 : decode cX9_solve 11 = .ok (.ireturn, 1) := by decide +kernel
theorem dX9_solve_12 : decode cX9_solve 12 = .ok (.aload_n 0, 1) := by decide +kernel
theorem dX9_solve_13 : decode cX9_solve 13 = .ok (.getfield 32, 3) := by decide +kernel
theorem dX9_solve_16 : decode cX9_solve 16 = .ok (.aload_n 0, 1) := by decide +kernel
theorem dX9_solve_17 : decode cX9_solve 17 = .ok (.getfield 14, 3) := by decide +kernel
theorem dX9_solve_20 : decode cX9_solve 20 = .ok (.iload_n 1, 1) := by decide +kernel
theorem dX9_solve_21 : decode cX9_solve 21 = .ok (.i2l, 1) := by decide +kernel
theorem dX9_solve_22 : decode cX9_solve 22 = .ok (.iload_n 2, 1) := by decide +kernel
theorem dX9_solve_23 : decode cX9_solve 23 = .ok (.i2l, 1) := by decide +kernel
theorem dX9_solve_24 : decode cX9_solve 24 = .ok (.invokevirtual 97, 3) := by decide +kernel
theorem dX9_solve_27 : decode cX9_solve 27 = .ok (.istore_n 3, 1) := by decide +kernel
theorem dX9_solve_28 : decode cX9_solve 28 = .ok (.iload_n 3, 1) := by decide +kernel
theorem dX9_solve_29 : decode cX9_solve 29 = .ok (.ifCond .eq 5, 3) := by decide +kernel
theorem dX9_solve_32 : decode cX9_solve 32 = .ok (.iload_n 3, 1) := by decide +kernel
theorem dX9_solve_33 : decode cX9_solve 33 = .ok (.ireturn, 1) := by decide +kernel
theorem dX9_solve_34 : decode cX9_solve 34 = .ok (.aload_n 0, 1) := by decide +kernel
theorem dX9_solve_35 : decode cX9_solve 35 = .ok (.getfield 32, 3) := by decide +kernel
theorem dX9_solve_38 : decode cX9_solve 38 = .ok (.getfield 101, 3) := by decide +kernel
theorem dX9_solve_41 : decode cX9_solve 41 = .ok (.invokevirtual 105, 3) := by decide +kernel
theorem dX9_solve_44 : decode cX9_solve 44 = .ok (.aload_n 0, 1) := by decide +kernel
theorem dX9_solve_45 : decode cX9_solve 45 = .ok (.getfield 32, 3) := by decide +kernel
theorem dX9_solve_48 : decode cX9_solve 48 = .ok (.astore 4, 2) := by decide +kernel
theorem dX9_solve_50 : decode cX9_solve 50 = .ok (.aload_n 0, 1) := by decide +kernel
theorem dX9_solve_51 : decode cX9_solve 51 = .ok (.aload_n 0, 1) := by decide +kernel
theorem dX9_solve_52 : decode cX9_solve 52 = .ok (.getfield 28, 3) := by decide +kernel
theorem dX9_solve_55 : decode cX9_solve 55 = .ok (.putfield 32, 3) := by decide +kernel
theorem dX9_solve_58 : decode cX9_solve 58 = .ok (.aload_n 0, 1) := by decide +kernel
theorem dX9_solve_59 : decode cX9_solve 59 = .ok (.aload 4, 2) := by decide +kernel
theorem dX9_solve_61 : decode cX9_solve 61 = .ok (.putfield 28, 3) := by decide +kernel
theorem dX9_solve_64 : decode cX9_solve 64 = .ok (.aload_n 0, 1) := by decide +kernel
theorem dX9_solve_65 : decode cX9_solve 65 = .ok (.iconst 1, 1) := by decide +kernel
theorem dX9_solve_66 : decode cX9_solve 66 = .ok (.putfield 89, 3) := by decide +kernel
theorem dX9_solve_69 : decode cX9_solve 69 = .ok (.aload_n 0, 1) := by decide +kernel
theorem dX9_solve_70 : decode cX9_solve 70 = .ok (.getfield 28, 3) := by decide +kernel
theorem dX9_solve_73 : decode cX9_solve 73 = .ok (.getfield 110, 3) := by decide +kernel
theorem dX9_solve_76 : decode cX9_solve 76 = .ok (.getfield 114, 3) := by decide +kernel
theorem dX9_solve_79 : decode cX9_solve 79 = .ok (.ireturn, 1) := by decide +kernel
theorem dX9_pivot_0 : decode cX9_pivot 0 = .ok (.aload_n 0, 1) := by decide +kernel
theorem dX9_pivot_1 : decode cX9_pivot 1 = .ok (.getfield 89, 3) := by decide +kernel
theorem dX9_pivot_4 : decode cX9_pivot 4 = .ok (.ifCond .ne 7, 3) := by decide +kernel
theorem dX9_pivot_7 : decode cX9_pivot 7 = .ok (.sipush (-10005), 3) := by decide +kernel
theorem dX9_pivot_10 : decode cX9_pivot 10 = .ok (.ireturn, 1) := by decide +kernel
theorem dX9_pivot_11 : decode cX9_pivot 11 = .ok (.iload_n 1, 1) := by decide +kernel
theorem dX9_pivot_12 : decode cX9_pivot 12 = .ok (.ifCond .ge 7, 3) := by decide +kernel
theorem dX9_pivot_15 : decode cX9_pivot 15 = .ok (.sipush (-10002), 3) := by decide +kernel
theorem dX9_pivot_18 : decode cX9_pivot 18 = .ok (.ireturn, 1) := by decide +kernel
theorem dX9_pivot_19 : decode cX9_pivot 19 = .ok (.iload_n 1, 1) := by decide +kernel
theorem dX9_pivot_20 : decode cX9_pivot 20 = .ok (.aload_n 0, 1) := by decide +kernel
theorem dX9_pivot_21 : decode cX9_pivot 21 = .ok (.getfield 28, 3) := by decide +kernel
theorem dX9_pivot_24 : decode cX9_pivot 24 = .ok (.getfield 110, 3) := by decide +kernel
theorem dX9_pivot_27 : decode cX9_pivot 27 = .ok (.getfield 114, 3) := by decide +kernel
theorem dX9_pivot_30 : decode cX9_pivot 30 = .ok (.if_icmp .lt 7, 3) := by decide +kernel
theorem dX9_pivot_33 : decode cX9_pivot 33 = .ok (.sipush (-10007), 3) := by decide +kernel
theorem dX9_pivot_36 : decode cX9_pivot 36 = .ok (.ireturn, 1) := by decide +kernel
theorem dX9_pivot_37 : decode cX9_pivot 37 = .ok (.iload_n 2, 1) := by decide +kernel
theorem dX9_pivot_38 : decode cX9_pivot 38 = .ok (.ifCond .eq 17, 3) := by decide +kernel
theorem dX9_pivot_41 : decode cX9_pivot 41 = .ok (.aload_n 0, 1) := by decide +kernel
theorem dX9_pivot_42 : decode cX9_pivot 42 = .ok (.getfield 28, 3) := by decide +kernel
theorem dX9_pivot_45 : decode cX9_pivot 45 = .ok (.getfield 119, 3) := by decide +kernel
theorem dX9_pivot_48 : decode cX9_pivot 48 = .ok (.iload_n 1, 1) := by decide +kernel
theorem dX9_pivot_49 : decode cX9_pivot 49 = .ok (.invokevirtual 122, 3) := by decide +kernel
theorem dX9_pivot_52 : decode cX9_pivot 52 = .ok (.goto 14, 3) := by decide +kernel
theorem dX9_pivot_55 : decode cX9_pivot 55 = .ok (.aload_n 0, 1) := by decide +kernel
theorem dX9_pivot_56 : decode cX9_pivot 56 = .ok (.getfield 28, 3) := by decide +kernel
theorem dX9_pivot_59 : decode cX9_pivot 59 = .ok (.getfield 110, 3) := by decide +kernel
theorem dX9_pivot_62 : decode cX9_pivot 62 = .ok (.iload_n 1, 1) := by decide +kernel
theorem dX9_pivot_63 : decode cX9_pivot 63 = .ok (.invokevirtual 122, 3) := by decide +kernel
theorem dX9_pivot_66 : decode cX9_pivot 66 = .ok (.invokestatic 126, 3) := by decide +kernel
theorem dX9_pivot_69 : decode cX9_pivot 69 = .ok (.ireturn, 1) := by decide +kernel
theorem dX9_objective_0 : decode cX9_objective 0 = .ok (.aload_n 0, 1) := by decide +kernel
theorem dX9_objective_1 : decode cX9_objective 1 = .ok (.getfield 89, 3) := by decide +kernel
theorem dX9_objective_4 : decode cX9_objective 4 = .ok (.ifCond .eq 27, 3) := by decide +kernel
theorem dX9_objective_7 : decode cX9_objective 7 = .ok (.aload_n 0, 1) := by decide +kernel
theorem dX9_objective_8 : decode cX9_objective 8 = .ok (.getfield 28, 3) := by decide +kernel
theorem dX9_objective_11 : decode cX9_objective 11 = .ok (.getfield 130, 3) := by decide +kernel
theorem dX9_objective_14 : decode cX9_objective 14 = .ok (.invokevirtual 133, 3) := by decide +kernel
theorem dX9_objective_17 : decode cX9_objective 17 = .ok (.aload_n 0, 1) := by decide +kernel
theorem dX9_objective_18 : decode cX9_objective 18 = .ok (.getfield 28, 3) := by decide +kernel
theorem dX9_objective_21 : decode cX9_objective 21 = .ok (.getfield 139, 3) := by decide +kernel
theorem dX9_objective_24 : decode cX9_objective 24 = .ok (.iload_n 1, 1) := by decide +kernel
theorem dX9_objective_25 : decode cX9_objective 25 = .ok (.invokestatic 143, 3) := by decide +kernel
theorem dX9_objective_28 : decode cX9_objective 28 = .ok (.goto 6, 3) := by decide +kernel
theorem dX9_objective_31 : decode cX9_objective 31 = .ok (.ldc2_w 147, 3) := by decide +kernel
theorem dX9_objective_34 : decode cX9_objective 34 = .ok (.lreturn, 1) := by decide +kernel
theorem dX9_flow_0 : decode cX9_flow 0 = .ok (.aload_n 0, 1) := by decide +kernel
theorem dX9_flow_1 : decode cX9_flow 1 = .ok (.getfield 14, 3) := by decide +kernel
theorem dX9_flow_4 : decode cX9_flow 4 = .ok (.iload_n 1, 1) := by decide +kernel
theorem dX9_flow_5 : decode cX9_flow 5 = .ok (.invokevirtual 73, 3) := by decide +kernel
theorem dX9_flow_8 : decode cX9_flow 8 = .ok (.ifCond .eq 10, 3) := by decide +kernel
theorem dX9_flow_11 : decode cX9_flow 11 = .ok (.aload_n 0, 1) := by decide +kernel
theorem dX9_flow_12 : decode cX9_flow 12 = .ok (.getfield 89, 3) := by decide +kernel
theorem dX9_flow_15 : decode cX9_flow 15 = .ok (.ifCond .ne 7, 3) := by decide +kernel
theorem dX9_flow_18 : decode cX9_flow 18 = .ok (.ldc2_w 147, 3) := by decide +kernel
theorem dX9_flow_21 : decode cX9_flow 21 = .ok (.lreturn, 1) := by decide +kernel
theorem dX9_flow_22 : decode cX9_flow 22 = .ok (.aload_n 0, 1) := by decide +kernel
theorem dX9_flow_23 : decode cX9_flow 23 = .ok (.getfield 28, 3) := by decide +kernel
theorem dX9_flow_26 : decode cX9_flow 26 = .ok (.getfield 130, 3) := by decide +kernel
theorem dX9_flow_29 : decode cX9_flow 29 = .ok (.getfield 149, 3) := by decide +kernel
theorem dX9_flow_32 : decode cX9_flow 32 = .ok (.iload_n 1, 1) := by decide +kernel
theorem dX9_flow_33 : decode cX9_flow 33 = .ok (.laload, 1) := by decide +kernel
theorem dX9_flow_34 : decode cX9_flow 34 = .ok (.aload_n 0, 1) := by decide +kernel
theorem dX9_flow_35 : decode cX9_flow 35 = .ok (.getfield 28, 3) := by decide +kernel
theorem dX9_flow_38 : decode cX9_flow 38 = .ok (.getfield 153, 3) := by decide +kernel
theorem dX9_flow_41 : decode cX9_flow 41 = .ok (.iconst 1, 1) := by decide +kernel
theorem dX9_flow_42 : decode cX9_flow 42 = .ok (.if_icmp .ne 13, 3) := by decide +kernel
theorem dX9_flow_45 : decode cX9_flow 45 = .ok (.aload_n 0, 1) := by decide +kernel
theorem dX9_flow_46 : decode cX9_flow 46 = .ok (.getfield 28, 3) := by decide +kernel
theorem dX9_flow_49 : decode cX9_flow 49 = .ok (.getfield 139, 3) := by decide +kernel
theorem dX9_flow_52 : decode cX9_flow 52 = .ok (.goto 4, 3) := by decide +kernel
theorem dX9_flow_55 : decode cX9_flow 55 = .ok (.lconst 1, 1) := by decide +kernel
theorem dX9_flow_56 : decode cX9_flow 56 = .ok (.iload_n 2, 1) := by decide +kernel
theorem dX9_flow_57 : decode cX9_flow 57 = .ok (.invokestatic 143, 3) := by decide +kernel
theorem dX9_flow_60 : decode cX9_flow 60 = .ok (.lreturn, 1) := by decide +kernel
theorem dX9_reducedCost_0 : decode cX9_reducedCost 0 = .ok (.aload_n 0, 1) := by decide +kernel
theorem dX9_reducedCost_1 : decode cX9_reducedCost 1 = .ok (.getfield 14, 3) := by decide +kernel
theorem dX9_reducedCost_4 : decode cX9_reducedCost 4 = .ok (.iload_n 1, 1) := by decide +kernel
theorem dX9_reducedCost_5 : decode cX9_reducedCost 5 = .ok (.invokevirtual 73, 3) := by decide +kernel
theorem dX9_reducedCost_8 : decode cX9_reducedCost 8 = .ok (.ifCond .eq 21, 3) := by decide +kernel
theorem dX9_reducedCost_11 : decode cX9_reducedCost 11 = .ok (.aload_n 0, 1) := by decide +kernel
theorem dX9_reducedCost_12 : decode cX9_reducedCost 12 = .ok (.getfield 89, 3) := by decide +kernel
theorem dX9_reducedCost_15 : decode cX9_reducedCost 15 = .ok (.ifCond .eq 14, 3) := by decide +kernel
theorem dX9_reducedCost_18 : decode cX9_reducedCost 18 = .ok (.aload_n 0, 1) := by decide +kernel
theorem dX9_reducedCost_19 : decode cX9_reducedCost 19 = .ok (.getfield 28, 3) := by decide +kernel
theorem dX9_reducedCost_22 : decode cX9_reducedCost 22 = .ok (.iload_n 1, 1) := by decide +kernel
theorem dX9_reducedCost_23 : decode cX9_reducedCost 23 = .ok (.invokevirtual 154, 3) := by decide +kernel
theorem dX9_reducedCost_26 : decode cX9_reducedCost 26 = .ok (.goto 6, 3) := by decide +kernel
theorem dX9_reducedCost_29 : decode cX9_reducedCost 29 = .ok (.ldc2_w 147, 3) := by decide +kernel
theorem dX9_reducedCost_32 : decode cX9_reducedCost 32 = .ok (.lreturn, 1) := by decide +kernel
theorem dX9_potential_0 : decode cX9_potential 0 = .ok (.aload_n 0, 1) := by decide +kernel
theorem dX9_potential_1 : decode cX9_potential 1 = .ok (.getfield 14, 3) := by decide +kernel
theorem dX9_potential_4 : decode cX9_potential 4 = .ok (.iload_n 1, 1) := by decide +kernel
theorem dX9_potential_5 : decode cX9_potential 5 = .ok (.invokevirtual 50, 3) := by decide +kernel
theorem dX9_potential_8 : decode cX9_potential 8 = .ok (.ifCond .eq 25, 3) := by decide +kernel
theorem dX9_potential_11 : decode cX9_potential 11 = .ok (.aload_n 0, 1) := by decide +kernel
theorem dX9_potential_12 : decode cX9_potential 12 = .ok (.getfield 89, 3) := by decide +kernel
theorem dX9_potential_15 : decode cX9_potential 15 = .ok (.ifCond .eq 18, 3) := by decide +kernel
theorem dX9_potential_18 : decode cX9_potential 18 = .ok (.aload_n 0, 1) := by decide +kernel
theorem dX9_potential_19 : decode cX9_potential 19 = .ok (.getfield 28, 3) := by decide +kernel
theorem dX9_potential_22 : decode cX9_potential 22 = .ok (.getfield 101, 3) := by decide +kernel
theorem dX9_potential_25 : decode cX9_potential 25 = .ok (.getfield 157, 3) := by decide +kernel
theorem dX9_potential_28 : decode cX9_potential 28 = .ok (.iload_n 1, 1) := by decide +kernel
theorem dX9_potential_29 : decode cX9_potential 29 = .ok (.laload, 1) := by decide +kernel
theorem dX9_potential_30 : decode cX9_potential 30 = .ok (.goto 6, 3) := by decide +kernel
theorem dX9_potential_33 : decode cX9_potential 33 = .ok (.ldc2_w 147, 3) := by decide +kernel
theorem dX9_potential_36 : decode cX9_potential 36 = .ok (.lreturn, 1) := by decide +kernel
theorem dX9_bound_0 : decode cX9_bound 0 = .ok (.aload_n 0, 1) := by decide +kernel
theorem dX9_bound_1 : decode cX9_bound 1 = .ok (.getfield 14, 3) := by decide +kernel
theorem dX9_bound_4 : decode cX9_bound 4 = .ok (.iload_n 1, 1) := by decide +kernel
theorem dX9_bound_5 : decode cX9_bound 5 = .ok (.invokevirtual 73, 3) := by decide +kernel
theorem dX9_bound_8 : decode cX9_bound 8 = .ok (.ifCond .ne 7, 3) := by decide +kernel
theorem dX9_bound_11 : decode cX9_bound 11 = .ok (.sipush (-10001), 3) := by decide +kernel
theorem dX9_bound_14 : decode cX9_bound 14 = .ok (.ireturn, 1) := by decide +kernel
theorem dX9_bound_15 : decode cX9_bound 15 = .ok (.aload_n 0, 1) := by decide +kernel
theorem dX9_bound_16 : decode cX9_bound 16 = .ok (.getfield 89, 3) := by decide +kernel
theorem dX9_bound_19 : decode cX9_bound 19 = .ok (.ifCond .eq 18, 3) := by decide +kernel
theorem dX9_bound_22 : decode cX9_bound 22 = .ok (.aload_n 0, 1) := by decide +kernel
theorem dX9_bound_23 : decode cX9_bound 23 = .ok (.getfield 28, 3) := by decide +kernel
theorem dX9_bound_26 : decode cX9_bound 26 = .ok (.getfield 130, 3) := by decide +kernel
theorem dX9_bound_29 : decode cX9_bound 29 = .ok (.getfield 160, 3) := by decide +kernel
theorem dX9_bound_32 : decode cX9_bound 32 = .ok (.iload_n 1, 1) := by decide +kernel
theorem dX9_bound_33 : decode cX9_bound 33 = .ok (.iaload, 1) := by decide +kernel
theorem dX9_bound_34 : decode cX9_bound 34 = .ok (.goto 6, 3) := by decide +kernel
theorem dX9_bound_37 : decode cX9_bound 37 = .ok (.sipush (-10005), 3) := by decide +kernel
theorem dX9_bound_40 : decode cX9_bound 40 = .ok (.ireturn, 1) := by decide +kernel
theorem dX9_tree_0 : decode cX9_tree 0 = .ok (.aload_n 0, 1) := by decide +kernel
theorem dX9_tree_1 : decode cX9_tree 1 = .ok (.getfield 14, 3) := by decide +kernel
theorem dX9_tree_4 : decode cX9_tree 4 = .ok (.iload_n 1, 1) := by decide +kernel
theorem dX9_tree_5 : decode cX9_tree 5 = .ok (.invokevirtual 50, 3) := by decide +kernel
theorem dX9_tree_8 : decode cX9_tree 8 = .ok (.ifCond .ne 7, 3) := by decide +kernel
theorem dX9_tree_11 : decode cX9_tree 11 = .ok (.sipush (-10001), 3) := by decide +kernel
theorem dX9_tree_14 : decode cX9_tree 14 = .ok (.ireturn, 1) := by decide +kernel
theorem dX9_tree_15 : decode cX9_tree 15 = .ok (.aload_n 0, 1) := by decide +kernel
theorem dX9_tree_16 : decode cX9_tree 16 = .ok (.getfield 89, 3) := by decide +kernel
theorem dX9_tree_19 : decode cX9_tree 19 = .ok (.ifCond .ne 7, 3) := by decide +kernel
theorem dX9_tree_22 : decode cX9_tree 22 = .ok (.sipush (-10005), 3) := by decide +kernel
theorem dX9_tree_25 : decode cX9_tree 25 = .ok (.ireturn, 1) := by decide +kernel
theorem dX9_tree_26 : decode cX9_tree 26 = .ok (.iload_n 2, 1) := by decide +kernel
theorem dX9_tree_27 : decode cX9_tree 27 = .ok (.tableswitch 85 0 3 #[29, 42, 59, 72], 29) := by decide +kernel
theorem dX9_tree_56 : decode cX9_tree 56 = .ok (.aload_n 0, 1) := by decide +kernel
theorem dX9_tree_57 : decode cX9_tree 57 = .ok (.getfield 28, 3) := by decide +kernel
theorem dX9_tree_60 : decode cX9_tree 60 = .ok (.getfield 101, 3) := by decide +kernel
theorem dX9_tree_63 : decode cX9_tree 63 = .ok (.getfield 163, 3) := by decide +kernel
theorem dX9_tree_66 : decode cX9_tree 66 = .ok (.iload_n 1, 1) := by decide +kernel
theorem dX9_tree_67 : decode cX9_tree 67 = .ok (.iaload, 1) := by decide +kernel
theorem dX9_tree_68 : decode cX9_tree 68 = .ok (.ireturn, 1) := by decide +kernel
theorem dX9_tree_69 : decode cX9_tree 69 = .ok (.aload_n 0, 1) := by decide +kernel
theorem dX9_tree_70 : decode cX9_tree 70 = .ok (.getfield 28, 3) := by decide +kernel
theorem dX9_tree_73 : decode cX9_tree 73 = .ok (.getfield 101, 3) := by decide +kernel
theorem dX9_tree_76 : decode cX9_tree 76 = .ok (.getfield 166, 3) := by decide +kernel
theorem dX9_tree_79 : decode cX9_tree 79 = .ok (.iload_n 1, 1) := by decide +kernel
theorem dX9_tree_80 : decode cX9_tree 80 = .ok (.iaload, 1) := by decide +kernel
theorem dX9_tree_81 : decode cX9_tree 81 = .ok (.i2l, 1) := by decide +kernel
theorem dX9_tree_82 : decode cX9_tree 82 = .ok (.invokestatic 126, 3) := by decide +kernel
theorem dX9_tree_85 : decode cX9_tree 85 = .ok (.ireturn, 1) := by decide +kernel
theorem dX9_tree_86 : decode cX9_tree 86 = .ok (.aload_n 0, 1) := by decide +kernel
theorem dX9_tree_87 : decode cX9_tree 87 = .ok (.getfield 28, 3) := by decide +kernel
theorem dX9_tree_90 : decode cX9_tree 90 = .ok (.getfield 101, 3) := by decide +kernel
theorem dX9_tree_93 : decode cX9_tree 93 = .ok (.getfield 169, 3) := by decide +kernel
theorem dX9_tree_96 : decode cX9_tree 96 = .ok (.iload_n 1, 1) := by decide +kernel
theorem dX9_tree_97 : decode cX9_tree 97 = .ok (.iaload, 1) := by decide +kernel
theorem dX9_tree_98 : decode cX9_tree 98 = .ok (.ireturn, 1) := by decide +kernel
theorem dX9_tree_99 : decode cX9_tree 99 = .ok (.aload_n 0, 1) := by decide +kernel
theorem dX9_tree_100 : decode cX9_tree 100 = .ok (.getfield 28, 3) := by decide +kernel
theorem dX9_tree_103 : decode cX9_tree 103 = .ok (.getfield 101, 3) := by decide +kernel
theorem dX9_tree_106 : decode cX9_tree 106 = .ok (.getfield 172, 3) := by decide +kernel
theorem dX9_tree_109 : decode cX9_tree 109 = .ok (.iload_n 1, 1) := by decide +kernel
theorem dX9_tree_110 : decode cX9_tree 110 = .ok (.iaload, 1) := by decide +kernel
theorem dX9_tree_111 : decode cX9_tree 111 = .ok (.ireturn, 1) := by decide +kernel
theorem dX9_tree_112 : decode cX9_tree 112 = .ok (.sipush (-10002), 3) := by decide +kernel
theorem dX9_tree_115 : decode cX9_tree 115 = .ok (.ireturn, 1) := by decide +kernel
theorem dX9_preorder_0 : decode cX9_preorder 0 = .ok (.aload_n 0, 1) := by decide +kernel
theorem dX9_preorder_1 : decode cX9_preorder 1 = .ok (.getfield 89, 3) := by decide +kernel
theorem dX9_preorder_4 : decode cX9_preorder 4 = .ok (.ifCond .ne 7, 3) := by decide +kernel
theorem dX9_preorder_7 : decode cX9_preorder 7 = .ok (.sipush (-10005), 3) := by decide +kernel
theorem dX9_preorder_10 : decode cX9_preorder 10 = .ok (.ireturn, 1) := by decide +kernel
theorem dX9_preorder_11 : decode cX9_preorder 11 = .ok (.iload_n 1, 1) := by decide +kernel
theorem dX9_preorder_12 : decode cX9_preorder 12 = .ok (.ifCond .ge 7, 3) := by decide +kernel
theorem dX9_preorder_15 : decode cX9_preorder 15 = .ok (.sipush (-10002), 3) := by decide +kernel
theorem dX9_preorder_18 : decode cX9_preorder 18 = .ok (.ireturn, 1) := by decide +kernel
theorem dX9_preorder_19 : decode cX9_preorder 19 = .ok (.iload_n 1, 1) := by decide +kernel
theorem dX9_preorder_20 : decode cX9_preorder 20 = .ok (.aload_n 0, 1) := by decide +kernel
theorem dX9_preorder_21 : decode cX9_preorder 21 = .ok (.getfield 14, 3) := by decide +kernel
theorem dX9_preorder_24 : decode cX9_preorder 24 = .ok (.getfield 39, 3) := by decide +kernel
theorem dX9_preorder_27 : decode cX9_preorder 27 = .ok (.if_icmp .gt 18, 3) := by decide +kernel
theorem dX9_preorder_30 : decode cX9_preorder 30 = .ok (.aload_n 0, 1) := by decide +kernel
theorem dX9_preorder_31 : decode cX9_preorder 31 = .ok (.getfield 28, 3) := by decide +kernel
theorem dX9_preorder_34 : decode cX9_preorder 34 = .ok (.getfield 101, 3) := by decide +kernel
theorem dX9_preorder_37 : decode cX9_preorder 37 = .ok (.getfield 174, 3) := by decide +kernel
theorem dX9_preorder_40 : decode cX9_preorder 40 = .ok (.iload_n 1, 1) := by decide +kernel
theorem dX9_preorder_41 : decode cX9_preorder 41 = .ok (.iaload, 1) := by decide +kernel
theorem dX9_preorder_42 : decode cX9_preorder 42 = .ok (.goto 6, 3) := by decide +kernel
theorem dX9_preorder_45 : decode cX9_preorder 45 = .ok (.sipush (-10007), 3) := by decide +kernel
theorem dX9_preorder_48 : decode cX9_preorder 48 = .ok (.ireturn, 1) := by decide +kernel
theorem dX9_limit_0 : decode cX9_limit 0 = .ok (.aload_n 0, 1) := by decide +kernel
theorem dX9_limit_1 : decode cX9_limit 1 = .ok (.getfield 89, 3) := by decide +kernel
theorem dX9_limit_4 : decode cX9_limit 4 = .ok (.ifCond .eq 19, 3) := by decide +kernel
theorem dX9_limit_7 : decode cX9_limit 7 = .ok (.aload_n 0, 1) := by decide +kernel
theorem dX9_limit_8 : decode cX9_limit 8 = .ok (.getfield 28, 3) := by decide +kernel
theorem dX9_limit_11 : decode cX9_limit 11 = .ok (.aload_n 0, 1) := by decide +kernel
theorem dX9_limit_12 : decode cX9_limit 12 = .ok (.getfield 14, 3) := by decide +kernel
theorem dX9_limit_15 : decode cX9_limit 15 = .ok (.iload_n 1, 1) := by decide +kernel
theorem dX9_limit_16 : decode cX9_limit 16 = .ok (.iload_n 2, 1) := by decide +kernel
theorem dX9_limit_17 : decode cX9_limit 17 = .ok (.invokevirtual 177, 3) := by decide +kernel
theorem dX9_limit_20 : decode cX9_limit 20 = .ok (.goto 6, 3) := by decide +kernel
theorem dX9_limit_23 : decode cX9_limit 23 = .ok (.ldc2_w 147, 3) := by decide +kernel
theorem dX9_limit_26 : decode cX9_limit 26 = .ok (.lreturn, 1) := by decide +kernel
theorem dX9_value_0 : decode cX9_value 0 = .ok (.iload_n 1, 1) := by decide +kernel
theorem dX9_value_1 : decode cX9_value 1 = .ok (.iload_n 2, 1) := by decide +kernel
theorem dX9_value_2 : decode cX9_value 2 = .ok (.invokestatic 93, 3) := by decide +kernel
theorem dX9_value_5 : decode cX9_value 5 = .ok (.ifCond .eq 21, 3) := by decide +kernel
theorem dX9_value_8 : decode cX9_value 8 = .ok (.aload_n 0, 1) := by decide +kernel
theorem dX9_value_9 : decode cX9_value 9 = .ok (.getfield 32, 3) := by decide +kernel
theorem dX9_value_12 : decode cX9_value 12 = .ok (.aload_n 0, 1) := by decide +kernel
theorem dX9_value_13 : decode cX9_value 13 = .ok (.getfield 14, 3) := by decide +kernel
theorem dX9_value_16 : decode cX9_value 16 = .ok (.iload_n 1, 1) := by decide +kernel
theorem dX9_value_17 : decode cX9_value 17 = .ok (.i2l, 1) := by decide +kernel
theorem dX9_value_18 : decode cX9_value 18 = .ok (.iload_n 2, 1) := by decide +kernel
theorem dX9_value_19 : decode cX9_value 19 = .ok (.i2l, 1) := by decide +kernel
theorem dX9_value_20 : decode cX9_value 20 = .ok (.invokevirtual 97, 3) := by decide +kernel
theorem dX9_value_23 : decode cX9_value 23 = .ok (.ifCond .eq 7, 3) := by decide +kernel
theorem dX9_value_26 : decode cX9_value 26 = .ok (.ldc2_w 147, 3) := by decide +kernel
theorem dX9_value_29 : decode cX9_value 29 = .ok (.lreturn, 1) := by decide +kernel
theorem dX9_value_30 : decode cX9_value 30 = .ok (.aload_n 0, 1) := by decide +kernel
theorem dX9_value_31 : decode cX9_value 31 = .ok (.getfield 32, 3) := by decide +kernel
theorem dX9_value_34 : decode cX9_value 34 = .ok (.getfield 130, 3) := by decide +kernel
theorem dX9_value_37 : decode cX9_value 37 = .ok (.invokevirtual 133, 3) := by decide +kernel
theorem dX9_value_40 : decode cX9_value 40 = .ok (.iload_n 2, 1) := by decide +kernel
theorem dX9_value_41 : decode cX9_value 41 = .ok (.i2l, 1) := by decide +kernel
theorem dX9_value_42 : decode cX9_value 42 = .ok (.iload_n 3, 1) := by decide +kernel
theorem dX9_value_43 : decode cX9_value 43 = .ok (.invokestatic 143, 3) := by decide +kernel
theorem dX9_value_46 : decode cX9_value 46 = .ok (.lreturn, 1) := by decide +kernel
theorem dX9_problem_0 : decode cX9_problem 0 = .ok (.iload_n 1, 1) := by decide +kernel
theorem dX9_problem_1 : decode cX9_problem 1 = .ok (.iload_n 2, 1) := by decide +kernel
theorem dX9_problem_2 : decode cX9_problem 2 = .ok (.invokestatic 93, 3) := by decide +kernel
theorem dX9_problem_5 : decode cX9_problem 5 = .ok (.ifCond .ne 7, 3) := by decide +kernel
theorem dX9_problem_8 : decode cX9_problem 8 = .ok (.sipush (-10002), 3) := by decide +kernel
theorem dX9_problem_11 : decode cX9_problem 11 = .ok (.ireturn, 1) := by decide +kernel
theorem dX9_problem_12 : decode cX9_problem 12 = .ok (.aload_n 0, 1) := by decide +kernel
theorem dX9_problem_13 : decode cX9_problem 13 = .ok (.getfield 32, 3) := by decide +kernel
theorem dX9_problem_16 : decode cX9_problem 16 = .ok (.aload_n 0, 1) := by decide +kernel
theorem dX9_problem_17 : decode cX9_problem 17 = .ok (.getfield 14, 3) := by decide +kernel
theorem dX9_problem_20 : decode cX9_problem 20 = .ok (.iload_n 1, 1) := by decide +kernel
theorem dX9_problem_21 : decode cX9_problem 21 = .ok (.i2l, 1) := by decide +kernel
theorem dX9_problem_22 : decode cX9_problem 22 = .ok (.iload_n 2, 1) := by decide +kernel
theorem dX9_problem_23 : decode cX9_problem 23 = .ok (.i2l, 1) := by decide +kernel
theorem dX9_problem_24 : decode cX9_problem 24 = .ok (.invokevirtual 97, 3) := by decide +kernel
theorem dX9_problem_27 : decode cX9_problem 27 = .ok (.istore_n 3, 1) := by decide +kernel
theorem dX9_problem_28 : decode cX9_problem 28 = .ok (.iload_n 3, 1) := by decide +kernel
theorem dX9_problem_29 : decode cX9_problem 29 = .ok (.ifCond .ne 9, 3) := by decide +kernel
theorem dX9_problem_32 : decode cX9_problem 32 = .ok (.sipush (-10007), 3) := by decide +kernel
theorem dX9_problem_35 : decode cX9_problem 35 = .ok (.goto 4, 3) := by decide +kernel
theorem dX9_problem_38 : decode cX9_problem 38 = .ok (.iload_n 3, 1) := by decide +kernel
theorem dX9_problem_39 : decode cX9_problem 39 = .ok (.ireturn, 1) := by decide +kernel
theorem dX9_breakpoints_0 : decode cX9_breakpoints 0 = .ok (.iload_n 1, 1) := by decide +kernel
theorem dX9_breakpoints_1 : decode cX9_breakpoints 1 = .ok (.iload_n 2, 1) := by decide +kernel
theorem dX9_breakpoints_2 : decode cX9_breakpoints 2 = .ok (.invokestatic 181, 3) := by decide +kernel
theorem dX9_breakpoints_5 : decode cX9_breakpoints 5 = .ok (.ifCond .ne 7, 3) := by decide +kernel
theorem dX9_breakpoints_8 : decode cX9_breakpoints 8 = .ok (.sipush (-10002), 3) := by decide +kernel
theorem dX9_breakpoints_11 : decode cX9_breakpoints 11 = .ok (.ireturn, 1) := by decide +kernel
theorem dX9_breakpoints_12 : decode cX9_breakpoints 12 = .ok (.aload_n 0, 1) := by decide +kernel
theorem dX9_breakpoints_13 : decode cX9_breakpoints 13 = .ok (.getfield 21, 3) := by decide +kernel
theorem dX9_breakpoints_16 : decode cX9_breakpoints 16 = .ok (.aload_n 0, 1) := by decide +kernel
theorem dX9_breakpoints_17 : decode cX9_breakpoints 17 = .ok (.getfield 14, 3) := by decide +kernel
theorem dX9_breakpoints_20 : decode cX9_breakpoints 20 = .ok (.aload_n 0, 1) := by decide +kernel
theorem dX9_breakpoints_21 : decode cX9_breakpoints 21 = .ok (.getfield 32, 3) := by decide +kernel
theorem dX9_breakpoints_24 : decode cX9_breakpoints 24 = .ok (.iload_n 1, 1) := by decide +kernel
theorem dX9_breakpoints_25 : decode cX9_breakpoints 25 = .ok (.iload_n 2, 1) := by decide +kernel
theorem dX9_breakpoints_26 : decode cX9_breakpoints 26 = .ok (.invokevirtual 184, 3) := by decide +kernel
theorem dX9_breakpoints_29 : decode cX9_breakpoints 29 = .ok (.istore_n 3, 1) := by decide +kernel
theorem dX9_breakpoints_30 : decode cX9_breakpoints 30 = .ok (.iload_n 3, 1) := by decide +kernel
theorem dX9_breakpoints_31 : decode cX9_breakpoints 31 = .ok (.ifCond .ne 16, 3) := by decide +kernel
theorem dX9_breakpoints_34 : decode cX9_breakpoints 34 = .ok (.aload_n 0, 1) := by decide +kernel
theorem dX9_breakpoints_35 : decode cX9_breakpoints 35 = .ok (.getfield 21, 3) := by decide +kernel
theorem dX9_breakpoints_38 : decode cX9_breakpoints 38 = .ok (.getfield 188, 3) := by decide +kernel
theorem dX9_breakpoints_41 : decode cX9_breakpoints 41 = .ok (.getfield 114, 3) := by decide +kernel
theorem dX9_breakpoints_44 : decode cX9_breakpoints 44 = .ok (.goto 4, 3) := by decide +kernel
theorem dX9_breakpoints_47 : decode cX9_breakpoints 47 = .ok (.iload_n 3, 1) := by decide +kernel
theorem dX9_breakpoints_48 : decode cX9_breakpoints 48 = .ok (.ireturn, 1) := by decide +kernel
theorem dX9_breakpoint_0 : decode cX9_breakpoint 0 = .ok (.iload_n 1, 1) := by decide +kernel
theorem dX9_breakpoint_1 : decode cX9_breakpoint 1 = .ok (.iload_n 2, 1) := by decide +kernel
theorem dX9_breakpoint_2 : decode cX9_breakpoint 2 = .ok (.invokestatic 181, 3) := by decide +kernel
theorem dX9_breakpoint_5 : decode cX9_breakpoint 5 = .ok (.ifCond .eq 23, 3) := by decide +kernel
theorem dX9_breakpoint_8 : decode cX9_breakpoint 8 = .ok (.aload_n 0, 1) := by decide +kernel
theorem dX9_breakpoint_9 : decode cX9_breakpoint 9 = .ok (.getfield 21, 3) := by decide +kernel
theorem dX9_breakpoint_12 : decode cX9_breakpoint 12 = .ok (.aload_n 0, 1) := by decide +kernel
theorem dX9_breakpoint_13 : decode cX9_breakpoint 13 = .ok (.getfield 14, 3) := by decide +kernel
theorem dX9_breakpoint_16 : decode cX9_breakpoint 16 = .ok (.aload_n 0, 1) := by decide +kernel
theorem dX9_breakpoint_17 : decode cX9_breakpoint 17 = .ok (.getfield 32, 3) := by decide +kernel
theorem dX9_breakpoint_20 : decode cX9_breakpoint 20 = .ok (.iload_n 1, 1) := by decide +kernel
theorem dX9_breakpoint_21 : decode cX9_breakpoint 21 = .ok (.iload_n 2, 1) := by decide +kernel
theorem dX9_breakpoint_22 : decode cX9_breakpoint 22 = .ok (.invokevirtual 184, 3) := by decide +kernel
theorem dX9_breakpoint_25 : decode cX9_breakpoint 25 = .ok (.ifCond .eq 7, 3) := by decide +kernel
theorem dX9_breakpoint_28 : decode cX9_breakpoint 28 = .ok (.ldc2_w 147, 3) := by decide +kernel
theorem dX9_breakpoint_31 : decode cX9_breakpoint 31 = .ok (.lreturn, 1) := by decide +kernel
theorem dX9_breakpoint_32 : decode cX9_breakpoint 32 = .ok (.iload 4, 2) := by decide +kernel
theorem dX9_breakpoint_34 : decode cX9_breakpoint 34 = .ok (.ifCond .eq 17, 3) := by decide +kernel
theorem dX9_breakpoint_37 : decode cX9_breakpoint 37 = .ok (.aload_n 0, 1) := by decide +kernel
theorem dX9_breakpoint_38 : decode cX9_breakpoint 38 = .ok (.getfield 21, 3) := by decide +kernel
theorem dX9_breakpoint_41 : decode cX9_breakpoint 41 = .ok (.getfield 191, 3) := by decide +kernel
theorem dX9_breakpoint_44 : decode cX9_breakpoint 44 = .ok (.iload_n 3, 1) := by decide +kernel
theorem dX9_breakpoint_45 : decode cX9_breakpoint 45 = .ok (.invokevirtual 122, 3) := by decide +kernel
theorem dX9_breakpoint_48 : decode cX9_breakpoint 48 = .ok (.goto 14, 3) := by decide +kernel
theorem dX9_breakpoint_51 : decode cX9_breakpoint 51 = .ok (.aload_n 0, 1) := by decide +kernel
theorem dX9_breakpoint_52 : decode cX9_breakpoint 52 = .ok (.getfield 21, 3) := by decide +kernel
theorem dX9_breakpoint_55 : decode cX9_breakpoint 55 = .ok (.getfield 188, 3) := by decide +kernel
theorem dX9_breakpoint_58 : decode cX9_breakpoint 58 = .ok (.iload_n 3, 1) := by decide +kernel
theorem dX9_breakpoint_59 : decode cX9_breakpoint 59 = .ok (.invokevirtual 122, 3) := by decide +kernel
theorem dX9_breakpoint_62 : decode cX9_breakpoint 62 = .ok (.lreturn, 1) := by decide +kernel
theorem dX9_slope_0 : decode cX9_slope 0 = .ok (.iload_n 1, 1) := by decide +kernel
theorem dX9_slope_1 : decode cX9_slope 1 = .ok (.iload_n 2, 1) := by decide +kernel
theorem dX9_slope_2 : decode cX9_slope 2 = .ok (.invokestatic 181, 3) := by decide +kernel
theorem dX9_slope_5 : decode cX9_slope 5 = .ok (.ifCond .eq 23, 3) := by decide +kernel
theorem dX9_slope_8 : decode cX9_slope 8 = .ok (.aload_n 0, 1) := by decide +kernel
theorem dX9_slope_9 : decode cX9_slope 9 = .ok (.getfield 21, 3) := by decide +kernel
theorem dX9_slope_12 : decode cX9_slope 12 = .ok (.aload_n 0, 1) := by decide +kernel
theorem dX9_slope_13 : decode cX9_slope 13 = .ok (.getfield 14, 3) := by decide +kernel
theorem dX9_slope_16 : decode cX9_slope 16 = .ok (.aload_n 0, 1) := by decide +kernel
theorem dX9_slope_17 : decode cX9_slope 17 = .ok (.getfield 32, 3) := by decide +kernel
theorem dX9_slope_20 : decode cX9_slope 20 = .ok (.iload_n 1, 1) := by decide +kernel
theorem dX9_slope_21 : decode cX9_slope 21 = .ok (.iload_n 2, 1) := by decide +kernel
theorem dX9_slope_22 : decode cX9_slope 22 = .ok (.invokevirtual 184, 3) := by decide +kernel
theorem dX9_slope_25 : decode cX9_slope 25 = .ok (.ifCond .eq 7, 3) := by decide +kernel
theorem dX9_slope_28 : decode cX9_slope 28 = .ok (.ldc2_w 147, 3) := by decide +kernel
theorem dX9_slope_31 : decode cX9_slope 31 = .ok (.lreturn, 1) := by decide +kernel
theorem dX9_slope_32 : decode cX9_slope 32 = .ok (.aload_n 0, 1) := by decide +kernel
theorem dX9_slope_33 : decode cX9_slope 33 = .ok (.getfield 21, 3) := by decide +kernel
theorem dX9_slope_36 : decode cX9_slope 36 = .ok (.getfield 194, 3) := by decide +kernel
theorem dX9_slope_39 : decode cX9_slope 39 = .ok (.iload_n 3, 1) := by decide +kernel
theorem dX9_slope_40 : decode cX9_slope 40 = .ok (.invokevirtual 122, 3) := by decide +kernel
theorem dX9_slope_43 : decode cX9_slope 43 = .ok (.lreturn, 1) := by decide +kernel
theorem dX9_forget_0 : decode cX9_forget 0 = .ok (.aload_n 0, 1) := by decide +kernel
theorem dX9_forget_1 : decode cX9_forget 1 = .ok (.iconst 0, 1) := by decide +kernel
theorem dX9_forget_2 : decode cX9_forget 2 = .ok (.putfield 89, 3) := by decide +kernel
theorem dX9_forget_5 : decode cX9_forget 5 = .ok (.aload_n 0, 1) := by decide +kernel
theorem dX9_forget_6 : decode cX9_forget 6 = .ok (.getfield 21, 3) := by decide +kernel
theorem dX9_forget_9 : decode cX9_forget 9 = .ok (.iconst 0, 1) := by decide +kernel
theorem dX9_forget_10 : decode cX9_forget 10 = .ok (.putfield 197, 3) := by decide +kernel
theorem dX9_forget_13 : decode cX9_forget 13 = .ok (.return_, 1) := by decide +kernel
theorem dX9_isWithin_0 : decode cX9_isWithin 0 = .ok (.iload_n 0, 1) := by decide +kernel
theorem dX9_isWithin_1 : decode cX9_isWithin 1 = .ok (.iload_n 1, 1) := by decide +kernel
theorem dX9_isWithin_2 : decode cX9_isWithin 2 = .ok (.if_icmp .lt 12, 3) := by decide +kernel
theorem dX9_isWithin_5 : decode cX9_isWithin 5 = .ok (.iload_n 0, 1) := by decide +kernel
theorem dX9_isWithin_6 : decode cX9_isWithin 6 = .ok (.iload_n 2, 1) := by decide +kernel
theorem dX9_isWithin_7 : decode cX9_isWithin 7 = .ok (.if_icmp .gt 7, 3) := by decide +kernel
theorem dX9_isWithin_10 : decode cX9_isWithin 10 = .ok (.iconst 1, 1) := by decide +kernel
theorem dX9_isWithin_11 : decode cX9_isWithin 11 = .ok (.goto 4, 3) := by decide +kernel
theorem dX9_isWithin_14 : decode cX9_isWithin 14 = .ok (.iconst 0, 1) := by decide +kernel
theorem dX9_isWithin_15 : decode cX9_isWithin 15 = .ok (.ireturn, 1) := by decide +kernel
theorem dX9_isParameter_0 : decode cX9_isParameter 0 = .ok (.iload_n 0, 1) := by decide +kernel
theorem dX9_isParameter_1 : decode cX9_isParameter 1 = .ok (.sipush (-10000), 3) := by decide +kernel
theorem dX9_isParameter_4 : decode cX9_isParameter 4 = .ok (.sipush 10000, 3) := by decide +kernel
theorem dX9_isParameter_7 : decode cX9_isParameter 7 = .ok (.invokestatic 35, 3) := by decide +kernel
theorem dX9_isParameter_10 : decode cX9_isParameter 10 = .ok (.ifCond .eq 18, 3) := by decide +kernel
theorem dX9_isParameter_13 : decode cX9_isParameter 13 = .ok (.iload_n 1, 1) := by decide +kernel
theorem dX9_isParameter_14 : decode cX9_isParameter 14 = .ok (.iconst 1, 1) := by decide +kernel
theorem dX9_isParameter_15 : decode cX9_isParameter 15 = .ok (.sipush 1000, 3) := by decide +kernel
theorem dX9_isParameter_18 : decode cX9_isParameter 18 = .ok (.invokestatic 35, 3) := by decide +kernel
theorem dX9_isParameter_21 : decode cX9_isParameter 21 = .ok (.ifCond .eq 7, 3) := by decide +kernel
theorem dX9_isParameter_24 : decode cX9_isParameter 24 = .ok (.iconst 1, 1) := by decide +kernel
theorem dX9_isParameter_25 : decode cX9_isParameter 25 = .ok (.goto 4, 3) := by decide +kernel
theorem dX9_isParameter_28 : decode cX9_isParameter 28 = .ok (.iconst 0, 1) := by decide +kernel
theorem dX9_isParameter_29 : decode cX9_isParameter 29 = .ok (.ireturn, 1) := by decide +kernel
theorem dX9_isInterval_0 : decode cX9_isInterval 0 = .ok (.iload_n 0, 1) := by decide +kernel
theorem dX9_isInterval_1 : decode cX9_isInterval 1 = .ok (.sipush (-1000), 3) := by decide +kernel
theorem dX9_isInterval_4 : decode cX9_isInterval 4 = .ok (.sipush 1000, 3) := by decide +kernel
theorem dX9_isInterval_7 : decode cX9_isInterval 7 = .ok (.invokestatic 35, 3) := by decide +kernel
theorem dX9_isInterval_10 : decode cX9_isInterval 10 = .ok (.ifCond .eq 19, 3) := by decide +kernel
theorem dX9_isInterval_13 : decode cX9_isInterval 13 = .ok (.iload_n 1, 1) := by decide +kernel
theorem dX9_isInterval_14 : decode cX9_isInterval 14 = .ok (.iload_n 0, 1) := by decide +kernel
theorem dX9_isInterval_15 : decode cX9_isInterval 15 = .ok (.if_icmp .le 14, 3) := by decide +kernel
theorem dX9_isInterval_18 : decode cX9_isInterval 18 = .ok (.iload_n 1, 1) := by decide +kernel
theorem dX9_isInterval_19 : decode cX9_isInterval 19 = .ok (.sipush 1000, 3) := by decide +kernel
theorem dX9_isInterval_22 : decode cX9_isInterval 22 = .ok (.if_icmp .gt 7, 3) := by decide +kernel
theorem dX9_isInterval_25 : decode cX9_isInterval 25 = .ok (.iconst 1, 1) := by decide +kernel
theorem dX9_isInterval_26 : decode cX9_isInterval 26 = .ok (.goto 4, 3) := by decide +kernel
theorem dX9_isInterval_29 : decode cX9_isInterval 29 = .ok (.iconst 0, 1) := by decide +kernel
theorem dX9_isInterval_30 : decode cX9_isInterval 30 = .ok (.ireturn, 1) := by decide +kernel
theorem dX9_lowestTerms_0 : decode cX9_lowestTerms 0 = .ok (.lload_n 0, 1) := by decide +kernel
theorem dX9_lowestTerms_1 : decode cX9_lowestTerms 1 = .ok (.lload_n 2, 1) := by decide +kernel
theorem dX9_lowestTerms_2 : decode cX9_lowestTerms 2 = .ok (.invokestatic 204, 3) := by decide +kernel
theorem dX9_lowestTerms_5 : decode cX9_lowestTerms 5 = .ok (.lstore 5, 2) := by decide +kernel
theorem dX9_lowestTerms_7 : decode cX9_lowestTerms 7 = .ok (.lload 5, 2) := by decide +kernel
theorem dX9_lowestTerms_9 : decode cX9_lowestTerms 9 = .ok (.lconst 0, 1) := by decide +kernel
theorem dX9_lowestTerms_10 : decode cX9_lowestTerms 10 = .ok (.lcmp, 1) := by decide +kernel
theorem dX9_lowestTerms_11 : decode cX9_lowestTerms 11 = .ok (.ifCond .ne 7, 3) := by decide +kernel
theorem dX9_lowestTerms_14 : decode cX9_lowestTerms 14 = .ok (.ldc2_w 147, 3) := by decide +kernel
theorem dX9_lowestTerms_17 : decode cX9_lowestTerms 17 = .ok (.lreturn, 1) := by decide +kernel
theorem dX9_lowestTerms_18 : decode cX9_lowestTerms 18 = .ok (.iload 4, 2) := by decide +kernel
theorem dX9_lowestTerms_20 : decode cX9_lowestTerms 20 = .ok (.ifCond .eq 7, 3) := by decide +kernel
theorem dX9_lowestTerms_23 : decode cX9_lowestTerms 23 = .ok (.lload_n 2, 1) := by decide +kernel
theorem dX9_lowestTerms_24 : decode cX9_lowestTerms 24 = .ok (.goto 4, 3) := by decide +kernel
theorem dX9_lowestTerms_27 : decode cX9_lowestTerms 27 = .ok (.lload_n 0, 1) := by decide +kernel
theorem dX9_lowestTerms_28 : decode cX9_lowestTerms 28 = .ok (.lload 5, 2) := by decide +kernel
theorem dX9_lowestTerms_30 : decode cX9_lowestTerms 30 = .ok (.ldiv, 1) := by decide +kernel
theorem dX9_lowestTerms_31 : decode cX9_lowestTerms 31 = .ok (.lreturn, 1) := by decide +kernel
theorem dX9_commonDivisor_0 : decode cX9_commonDivisor 0 = .ok (.lload_n 0, 1) := by decide +kernel
theorem dX9_commonDivisor_1 : decode cX9_commonDivisor 1 = .ok (.invokestatic 208, 3) := by decide +kernel
theorem dX9_commonDivisor_4 : decode cX9_commonDivisor 4 = .ok (.lstore 4, 2) := by decide +kernel
theorem dX9_commonDivisor_6 : decode cX9_commonDivisor 6 = .ok (.lload_n 2, 1) := by decide +kernel
theorem dX9_commonDivisor_7 : decode cX9_commonDivisor 7 = .ok (.invokestatic 208, 3) := by decide +kernel
theorem dX9_commonDivisor_10 : decode cX9_commonDivisor 10 = .ok (.lstore 6, 2) := by decide +kernel
theorem dX9_commonDivisor_12 : decode cX9_commonDivisor 12 = .ok (.iconst 0, 1) := by decide +kernel
theorem dX9_commonDivisor_13 : decode cX9_commonDivisor 13 = .ok (.istore 8, 2) := by decide +kernel
theorem dX9_commonDivisor_15 : decode cX9_commonDivisor 15 = .ok (.lload 6, 2) := by decide +kernel
theorem dX9_commonDivisor_17 : decode cX9_commonDivisor 17 = .ok (.lconst 0, 1) := by decide +kernel
theorem dX9_commonDivisor_18 : decode cX9_commonDivisor 18 = .ok (.lcmp, 1) := by decide +kernel
theorem dX9_commonDivisor_19 : decode cX9_commonDivisor 19 = .ok (.ifCond .eq 32, 3) := by decide +kernel
theorem dX9_commonDivisor_22 : decode cX9_commonDivisor 22 = .ok (.iload 8, 2) := by decide +kernel
theorem dX9_commonDivisor_24 : decode cX9_commonDivisor 24 = .ok (.sipush 200, 3) := by decide +kernel
theorem dX9_commonDivisor_27 : decode cX9_commonDivisor 27 = .ok (.if_icmp .ge 24, 3) := by decide +kernel
theorem dX9_commonDivisor_30 : decode cX9_commonDivisor 30 = .ok (.lload 4, 2) := by decide +kernel
theorem dX9_commonDivisor_32 : decode cX9_commonDivisor 32 = .ok (.lload 6, 2) := by decide +kernel
theorem dX9_commonDivisor_34 : decode cX9_commonDivisor 34 = .ok (.lrem, 1) := by decide +kernel
theorem dX9_commonDivisor_35 : decode cX9_commonDivisor 35 = .ok (.lstore 9, 2) := by decide +kernel
theorem dX9_commonDivisor_37 : decode cX9_commonDivisor 37 = .ok (.lload 6, 2) := by decide +kernel
theorem dX9_commonDivisor_39 : decode cX9_commonDivisor 39 = .ok (.lstore 4, 2) := by decide +kernel
theorem dX9_commonDivisor_41 : decode cX9_commonDivisor 41 = .ok (.lload 9, 2) := by decide +kernel
theorem dX9_commonDivisor_43 : decode cX9_commonDivisor 43 = .ok (.lstore 6, 2) := by decide +kernel
theorem dX9_commonDivisor_45 : decode cX9_commonDivisor 45 = .ok (.iinc 8 1, 3) := by decide +kernel
theorem dX9_commonDivisor_48 : decode cX9_commonDivisor 48 = .ok (.goto (-33), 3) := by decide +kernel
theorem dX9_commonDivisor_51 : decode cX9_commonDivisor 51 = .ok (.lload 4, 2) := by decide +kernel
theorem dX9_commonDivisor_53 : decode cX9_commonDivisor 53 = .ok (.lreturn, 1) := by decide +kernel
theorem dJxa1e45_init_da8c8_0 : decode cJxa1e45_init_da8c8 0 = .ok (.aload_n 0, 1) := by decide +kernel
theorem dJxa1e45_init_da8c8_1 : decode cJxa1e45_init_da8c8 1 = .ok (.invokespecial 1, 3) := by decide +kernel
theorem dJxa1e45_init_da8c8_4 : decode cJxa1e45_init_da8c8 4 = .ok (.return_, 1) := by decide +kernel
theorem dJxc12de_init_da8c8_0 : decode cJxc12de_init_da8c8 0 = .ok (.aload_n 0, 1) := by decide +kernel
theorem dJxc12de_init_da8c8_1 : decode cJxc12de_init_da8c8 1 = .ok (.invokespecial 1, 3) := by decide +kernel
theorem dJxc12de_init_da8c8_4 : decode cJxc12de_init_da8c8 4 = .ok (.aload_n 0, 1) := by decide +kernel
theorem dJxc12de_init_da8c8_5 : decode cJxc12de_init_da8c8 5 = .ok (.iconst 0, 1) := by decide +kernel
theorem dJxc12de_init_da8c8_6 : decode cJxc12de_init_da8c8 6 = .ok (.putfield 7, 3) := by decide +kernel
theorem dJxc12de_init_da8c8_9 : decode cJxc12de_init_da8c8 9 = .ok (.return_, 1) := by decide +kernel
theorem dJx4a65c_init_da8c8_0 : decode cJx4a65c_init_da8c8 0 = .ok (.aload_n 0, 1) := by decide +kernel
theorem dJx4a65c_init_da8c8_1 : decode cJx4a65c_init_da8c8 1 = .ok (.invokespecial 1, 3) := by decide +kernel
theorem dJx4a65c_init_da8c8_4 : decode cJx4a65c_init_da8c8 4 = .ok (.aload_n 0, 1) := by decide +kernel
theorem dJx4a65c_init_da8c8_5 : decode cJx4a65c_init_da8c8 5 = .ok (.getstatic 39, 3) := by decide +kernel
theorem dJx4a65c_init_da8c8_8 : decode cJx4a65c_init_da8c8 8 = .ok (.putfield 9, 3) := by decide +kernel
theorem dJx4a65c_init_da8c8_11 : decode cJx4a65c_init_da8c8 11 = .ok (.return_, 1) := by decide +kernel
theorem dJx4a65c_grow_92f84_0 : decode cJx4a65c_grow_92f84 0 = .ok (.aload_n 0, 1) := by decide +kernel
theorem dJx4a65c_grow_92f84_1 : decode cJx4a65c_grow_92f84 1 = .ok (.getfield 9, 3) := by decide +kernel
theorem dJx4a65c_grow_92f84_4 : decode cJx4a65c_grow_92f84 4 = .ok (.arraylength, 1) := by decide +kernel
theorem dJx4a65c_grow_92f84_5 : decode cJx4a65c_grow_92f84 5 = .ok (.istore_n 2, 1) := by decide +kernel
theorem dJx4a65c_grow_92f84_6 : decode cJx4a65c_grow_92f84 6 = .ok (.iload_n 2, 1) := by decide +kernel
theorem dJx4a65c_grow_92f84_7 : decode cJx4a65c_grow_92f84 7 = .ok (.ifCond .gt 13, 3) := by decide +kernel
theorem dJx4a65c_grow_92f84_10 : decode cJx4a65c_grow_92f84 10 = .ok (.aload_n 0, 1) := by decide +kernel
theorem dJx4a65c_grow_92f84_11 : decode cJx4a65c_grow_92f84 11 = .ok (.getfield 9, 3) := by decide +kernel
theorem dJx4a65c_grow_92f84_14 : decode cJx4a65c_grow_92f84 14 = .ok (.getstatic 39, 3) := by decide +kernel
theorem dJx4a65c_grow_92f84_17 : decode cJx4a65c_grow_92f84 17 = .ok (.if_acmp .eq 28, 3) := by decide +kernel
theorem dJx4a65c_grow_92f84_20 : decode cJx4a65c_grow_92f84 20 = .ok (.iload_n 2, 1) := by decide +kernel
theorem dJx4a65c_grow_92f84_21 : decode cJx4a65c_grow_92f84 21 = .ok (.iload_n 1, 1) := by decide +kernel
theorem dJx4a65c_grow_92f84_22 : decode cJx4a65c_grow_92f84 22 = .ok (.iload_n 2, 1) := by decide +kernel
theorem dJx4a65c_grow_92f84_23 : decode cJx4a65c_grow_92f84 23 = .ok (.isub, 1) := by decide +kernel
theorem dJx4a65c_grow_92f84_24 : decode cJx4a65c_grow_92f84 24 = .ok (.iload_n 2, 1) := by decide +kernel
theorem dJx4a65c_grow_92f84_25 : decode cJx4a65c_grow_92f84 25 = .ok (.iconst 1, 1) := by decide +kernel
theorem dJx4a65c_grow_92f84_26 : decode cJx4a65c_grow_92f84 26 = .ok (.ishr, 1) := by decide +kernel
theorem dJx4a65c_grow_92f84_27 : decode cJx4a65c_grow_92f84 27 = .ok (.invokestatic 73, 3) := by decide +kernel
theorem dJx4a65c_grow_92f84_30 : decode cJx4a65c_grow_92f84 30 = .ok (.istore_n 3, 1) := by decide +kernel
theorem dJx4a65c_grow_92f84_31 : decode cJx4a65c_grow_92f84 31 = .ok (.aload_n 0, 1) := by decide +kernel
theorem dJx4a65c_grow_92f84_32 : decode cJx4a65c_grow_92f84 32 = .ok (.aload_n 0, 1) := by decide +kernel
theorem dJx4a65c_grow_92f84_33 : decode cJx4a65c_grow_92f84 33 = .ok (.getfield 9, 3) := by decide +kernel
theorem dJx4a65c_grow_92f84_36 : decode cJx4a65c_grow_92f84 36 = .ok (.iload_n 3, 1) := by decide +kernel
theorem dJx4a65c_grow_92f84_37 : decode cJx4a65c_grow_92f84 37 = .ok (.invokestatic 66, 3) := by decide +kernel
theorem dJx4a65c_grow_92f84_40 : decode cJx4a65c_grow_92f84 40 = .ok (.dup_x1, 1) := by decide +kernel
theorem dJx4a65c_grow_92f84_41 : decode cJx4a65c_grow_92f84 41 = .ok (.putfield 9, 3) := by decide +kernel
theorem dJx4a65c_grow_92f84_44 : decode cJx4a65c_grow_92f84 44 = .ok (.areturn, 1) := by decide +kernel
theorem dJx4a65c_grow_92f84_45 : decode cJx4a65c_grow_92f84 45 = .ok (.aload_n 0, 1) := by decide +kernel
theorem dJx4a65c_grow_92f84_46 : decode cJx4a65c_grow_92f84 46 = .ok (.bipush 10, 2) := by decide +kernel
theorem dJx4a65c_grow_92f84_48 : decode cJx4a65c_grow_92f84 48 = .ok (.iload_n 1, 1) := by decide +kernel
theorem dJx4a65c_grow_92f84_49 : decode cJx4a65c_grow_92f84 49 = .ok (.invokestatic 79, 3) := by decide +kernel
theorem dJx4a65c_grow_92f84_52 : decode cJx4a65c_grow_92f84 52 = .ok (.anewarray 7, 3) := by decide +kernel
theorem dJx4a65c_grow_92f84_55 : decode cJx4a65c_grow_92f84 55 = .ok (.dup_x1, 1) := by decide +kernel
theorem dJx4a65c_grow_92f84_56 : decode cJx4a65c_grow_92f84 56 = .ok (.putfield 9, 3) := by decide +kernel
theorem dJx4a65c_grow_92f84_59 : decode cJx4a65c_grow_92f84 59 = .ok (.areturn, 1) := by decide +kernel
theorem dJx4a65c_grow_d5877_0 : decode cJx4a65c_grow_d5877 0 = .ok (.aload_n 0, 1) := by decide +kernel
theorem dJx4a65c_grow_d5877_1 : decode cJx4a65c_grow_d5877 1 = .ok (.aload_n 0, 1) := by decide +kernel
theorem dJx4a65c_grow_d5877_2 : decode cJx4a65c_grow_d5877 2 = .ok (.getfield 48, 3) := by decide +kernel
theorem dJx4a65c_grow_d5877_5 : decode cJx4a65c_grow_d5877 5 = .ok (.iconst 1, 1) := by decide +kernel
theorem dJx4a65c_grow_d5877_6 : decode cJx4a65c_grow_d5877 6 = .ok (.iadd, 1) := by decide +kernel
theorem dJx4a65c_grow_d5877_7 : decode cJx4a65c_grow_d5877 7 = .ok (.invokevirtual 69, 3) := by decide +kernel
theorem dJx4a65c_grow_d5877_10 : decode cJx4a65c_grow_d5877 10 = .ok (.areturn, 1) := by decide +kernel
theorem dJx4a65c_size_8abf5_0 : decode cJx4a65c_size_8abf5 0 = .ok (.aload_n 0, 1) := by decide +kernel
theorem dJx4a65c_size_8abf5_1 : decode cJx4a65c_size_8abf5 1 = .ok (.getfield 48, 3) := by decide +kernel
theorem dJx4a65c_size_8abf5_4 : decode cJx4a65c_size_8abf5 4 = .ok (.ireturn, 1) := by decide +kernel
theorem dJx4a65c_elementData_915e3_0 : decode cJx4a65c_elementData_915e3 0 = .ok (.aload_n 0, 1) := by decide +kernel
theorem dJx4a65c_elementData_915e3_1 : decode cJx4a65c_elementData_915e3 1 = .ok (.getfield 9, 3) := by decide +kernel
theorem dJx4a65c_elementData_915e3_4 : decode cJx4a65c_elementData_915e3 4 = .ok (.iload_n 1, 1) := by decide +kernel
theorem dJx4a65c_elementData_915e3_5 : decode cJx4a65c_elementData_915e3 5 = .ok (.aaload, 1) := by decide +kernel
theorem dJx4a65c_elementData_915e3_6 : decode cJx4a65c_elementData_915e3 6 = .ok (.areturn, 1) := by decide +kernel
theorem dJx4a65c_get_915e3_0 : decode cJx4a65c_get_915e3 0 = .ok (.iload_n 1, 1) := by decide +kernel
theorem dJx4a65c_get_915e3_1 : decode cJx4a65c_get_915e3 1 = .ok (.aload_n 0, 1) := by decide +kernel
theorem dJx4a65c_get_915e3_2 : decode cJx4a65c_get_915e3 2 = .ok (.getfield 48, 3) := by decide +kernel
theorem dJx4a65c_get_915e3_5 : decode cJx4a65c_get_915e3 5 = .ok (.invokestatic 118, 3) := by decide +kernel
theorem dJx4a65c_get_915e3_8 : decode cJx4a65c_get_915e3 8 = .ok (.pop, 1) := by decide +kernel
theorem dJx4a65c_get_915e3_9 : decode cJx4a65c_get_915e3 9 = .ok (.aload_n 0, 1) := by decide +kernel
theorem dJx4a65c_get_915e3_10 : decode cJx4a65c_get_915e3 10 = .ok (.iload_n 1, 1) := by decide +kernel
theorem dJx4a65c_get_915e3_11 : decode cJx4a65c_get_915e3 11 = .ok (.invokevirtual 123, 3) := by decide +kernel
theorem dJx4a65c_get_915e3_14 : decode cJx4a65c_get_915e3 14 = .ok (.areturn, 1) := by decide +kernel
theorem dJx4a65c_add_72be8_0 : decode cJx4a65c_add_72be8 0 = .ok (.iload_n 3, 1) := by decide +kernel
theorem dJx4a65c_add_72be8_1 : decode cJx4a65c_add_72be8 1 = .ok (.aload_n 2, 1) := by decide +kernel
theorem dJx4a65c_add_72be8_2 : decode cJx4a65c_add_72be8 2 = .ok (.arraylength, 1) := by decide +kernel
theorem dJx4a65c_add_72be8_3 : decode cJx4a65c_add_72be8 3 = .ok (.if_icmp .ne 8, 3) := by decide +kernel
theorem dJx4a65c_add_72be8_6 : decode cJx4a65c_add_72be8 6 = .ok (.aload_n 0, 1) := by decide +kernel
theorem dJx4a65c_add_72be8_7 : decode cJx4a65c_add_72be8 7 = .ok (.invokevirtual 129, 3) := by decide +kernel
theorem dJx4a65c_add_72be8_10 : decode cJx4a65c_add_72be8 10 = .ok (.astore_n 2, 1) := by decide +kernel
theorem dJx4a65c_add_72be8_11 : decode cJx4a65c_add_72be8 11 = .ok (.aload_n 2, 1) := by decide +kernel
theorem dJx4a65c_add_72be8_12 : decode cJx4a65c_add_72be8 12 = .ok (.iload_n 3, 1) := by decide +kernel
theorem dJx4a65c_add_72be8_13 : decode cJx4a65c_add_72be8 13 = .ok (.aload_n 1, 1) := by decide +kernel
theorem dJx4a65c_add_72be8_14 : decode cJx4a65c_add_72be8 14 = .ok (.aastore, 1) := by decide +kernel
theorem dJx4a65c_add_72be8_15 : decode cJx4a65c_add_72be8 15 = .ok (.aload_n 0, 1) := by decide +kernel
theorem dJx4a65c_add_72be8_16 : decode cJx4a65c_add_72be8 16 = .ok (.iload_n 3, 1) := by decide +kernel
theorem dJx4a65c_add_72be8_17 : decode cJx4a65c_add_72be8 17 = .ok (.iconst 1, 1) := by decide +kernel
theorem dJx4a65c_add_72be8_18 : decode cJx4a65c_add_72be8 18 = .ok (.iadd, 1) := by decide +kernel
theorem dJx4a65c_add_72be8_19 : decode cJx4a65c_add_72be8 19 = .ok (.putfield 48, 3) := by decide +kernel
theorem dJx4a65c_add_72be8_22 : decode cJx4a65c_add_72be8 22 = .ok (.return_, 1) := by decide +kernel
theorem dJx4a65c_add_9ea2d_0 : decode cJx4a65c_add_9ea2d 0 = .ok (.aload_n 0, 1) := by decide +kernel
theorem dJx4a65c_add_9ea2d_1 : decode cJx4a65c_add_9ea2d 1 = .ok (.dup, 1) := by decide +kernel
theorem dJx4a65c_add_9ea2d_2 : decode cJx4a65c_add_9ea2d 2 = .ok (.getfield 63, 3) := by decide +kernel
theorem dJx4a65c_add_9ea2d_5 : decode cJx4a65c_add_9ea2d 5 = .ok (.iconst 1, 1) := by decide +kernel
theorem dJx4a65c_add_9ea2d_6 : decode cJx4a65c_add_9ea2d 6 = .ok (.iadd, 1) := by decide +kernel
theorem dJx4a65c_add_9ea2d_7 : decode cJx4a65c_add_9ea2d 7 = .ok (.putfield 63, 3) := by decide +kernel
theorem dJx4a65c_add_9ea2d_10 : decode cJx4a65c_add_9ea2d 10 = .ok (.aload_n 0, 1) := by decide +kernel
theorem dJx4a65c_add_9ea2d_11 : decode cJx4a65c_add_9ea2d 11 = .ok (.aload_n 1, 1) := by decide +kernel
theorem dJx4a65c_add_9ea2d_12 : decode cJx4a65c_add_9ea2d 12 = .ok (.aload_n 0, 1) := by decide +kernel
theorem dJx4a65c_add_9ea2d_13 : decode cJx4a65c_add_9ea2d 13 = .ok (.getfield 9, 3) := by decide +kernel
theorem dJx4a65c_add_9ea2d_16 : decode cJx4a65c_add_9ea2d 16 = .ok (.aload_n 0, 1) := by decide +kernel
theorem dJx4a65c_add_9ea2d_17 : decode cJx4a65c_add_9ea2d 17 = .ok (.getfield 48, 3) := by decide +kernel
theorem dJx4a65c_add_9ea2d_20 : decode cJx4a65c_add_9ea2d 20 = .ok (.invokevirtual 131, 3) := by decide +kernel
theorem dJx4a65c_add_9ea2d_23 : decode cJx4a65c_add_9ea2d 23 = .ok (.iconst 1, 1) := by decide +kernel
theorem dJx4a65c_add_9ea2d_24 : decode cJx4a65c_add_9ea2d 24 = .ok (.ireturn, 1) := by decide +kernel
theorem dJ7_fill_53178_0 : decode cJ7_fill_53178 0 = .ok (.iconst 0, 1) := by decide +kernel
theorem dJ7_fill_53178_1 : decode cJ7_fill_53178 1 = .ok (.istore_n 2, 1) := by decide +kernel
theorem dJ7_fill_53178_2 : decode cJ7_fill_53178 2 = .ok (.aload_n 0, 1) := by decide +kernel
theorem dJ7_fill_53178_3 : decode cJ7_fill_53178 3 = .ok (.arraylength, 1) := by decide +kernel
theorem dJ7_fill_53178_4 : decode cJ7_fill_53178 4 = .ok (.istore_n 3, 1) := by decide +kernel
theorem dJ7_fill_53178_5 : decode cJ7_fill_53178 5 = .ok (.iload_n 2, 1) := by decide +kernel
theorem dJ7_fill_53178_6 : decode cJ7_fill_53178 6 = .ok (.iload_n 3, 1) := by decide +kernel
theorem dJ7_fill_53178_7 : decode cJ7_fill_53178 7 = .ok (.if_icmp .ge 13, 3) := by decide +kernel
theorem dJ7_fill_53178_10 : decode cJ7_fill_53178 10 = .ok (.aload_n 0, 1) := by decide +kernel
theorem dJ7_fill_53178_11 : decode cJ7_fill_53178 11 = .ok (.iload_n 2, 1) := by decide +kernel
theorem dJ7_fill_53178_12 : decode cJ7_fill_53178 12 = .ok (.iload_n 1, 1) := by decide +kernel
theorem dJ7_fill_53178_13 : decode cJ7_fill_53178 13 = .ok (.iastore, 1) := by decide +kernel
theorem dJ7_fill_53178_14 : decode cJ7_fill_53178 14 = .ok (.iinc 2 1, 3) := by decide +kernel
theorem dJ7_fill_53178_17 : decode cJ7_fill_53178 17 = .ok (.goto (-12), 3) := by decide +kernel
theorem dJ7_fill_53178_20 : decode cJ7_fill_53178 20 = .ok (.return_, 1) := by decide +kernel
theorem dJ15_checkIndex_7cf53_0 : decode cJ15_checkIndex_7cf53 0 = .ok (.iload_n 0, 1) := by decide +kernel
theorem dJ15_checkIndex_7cf53_1 : decode cJ15_checkIndex_7cf53 1 = .ok (.iload_n 1, 1) := by decide +kernel
theorem dJ15_checkIndex_7cf53_2 : decode cJ15_checkIndex_7cf53 2 = .ok (.aconst_null, 1) := by decide +kernel
theorem dJ15_checkIndex_7cf53_3 : decode cJ15_checkIndex_7cf53 3 = .ok (.invokestatic 105, 3) := by decide +kernel
theorem dJ15_checkIndex_7cf53_6 : decode cJ15_checkIndex_7cf53 6 = .ok (.ireturn, 1) := by decide +kernel
theorem dJ3_checkIndex_8e157_0 : decode cJ3_checkIndex_8e157 0 = .ok (.iload_n 0, 1) := by decide +kernel
theorem dJ3_checkIndex_8e157_1 : decode cJ3_checkIndex_8e157 1 = .ok (.ifCond .lt 8, 3) := by decide +kernel
theorem dJ3_checkIndex_8e157_4 : decode cJ3_checkIndex_8e157 4 = .ok (.iload_n 0, 1) := by decide +kernel
theorem dJ3_checkIndex_8e157_5 : decode cJ3_checkIndex_8e157 5 = .ok (.iload_n 1, 1) := by decide +kernel
theorem dJ3_checkIndex_8e157_6 : decode cJ3_checkIndex_8e157 6 = .ok (.if_icmp .lt 10, 3) := by decide +kernel
theorem dJ3_checkIndex_8e157_9 : decode cJ3_checkIndex_8e157 9 = .ok (.aload_n 2, 1) := by decide +kernel
theorem dJ3_checkIndex_8e157_10 : decode cJ3_checkIndex_8e157 10 = .ok (.iload_n 0, 1) := by decide +kernel
theorem dJ3_checkIndex_8e157_11 : decode cJ3_checkIndex_8e157 11 = .ok (.iload_n 1, 1) := by decide +kernel
theorem dJ3_checkIndex_8e157_12 : decode cJ3_checkIndex_8e157 12 = .ok (.invokestatic 95, 3) := by decide +kernel
theorem dJ3_checkIndex_8e157_15 : decode cJ3_checkIndex_8e157 15 = .ok (.athrow, 1) := by decide +kernel
theorem dJ3_checkIndex_8e157_16 : decode cJ3_checkIndex_8e157 16 = .ok (.iload_n 0, 1) := by decide +kernel
theorem dJ3_checkIndex_8e157_17 : decode cJ3_checkIndex_8e157 17 = .ok (.ireturn, 1) := by decide +kernel
end
section
theorem dX10_init_0 : decode cX10_init 0 = .ok (.aload_n 0, 1) := by decide +kernel
theorem dX10_init_1 : decode cX10_init 1 = .ok (.invokespecial 1, 3) := by decide +kernel
theorem dX10_init_4 : decode cX10_init 4 = .ok (.aload_n 0, 1) := by decide +kernel
theorem dX10_init_5 : decode cX10_init 5 = .ok (.bipush 20, 2) := by decide +kernel
theorem dX10_init_7 : decode cX10_init 7 = .ok (.newarray .int, 2) := by decide +kernel
theorem dX10_init_9 : decode cX10_init 9 = .ok (.putfield 7, 3) := by decide +kernel
theorem dX10_init_12 : decode cX10_init 12 = .ok (.aload_n 0, 1) := by decide +kernel
theorem dX10_init_13 : decode cX10_init 13 = .ok (.bipush 20, 2) := by decide +kernel
theorem dX10_init_15 : decode cX10_init 15 = .ok (.newarray .int, 2) := by decide +kernel
theorem dX10_init_17 : decode cX10_init 17 = .ok (.putfield 13, 3) := by decide +kernel
theorem dX10_init_20 : decode cX10_init 20 = .ok (.aload_n 0, 1) := by decide +kernel
theorem dX10_init_21 : decode cX10_init 21 = .ok (.bipush 20, 2) := by decide +kernel
theorem dX10_init_23 : decode cX10_init 23 = .ok (.newarray .int, 2) := by decide +kernel
theorem dX10_init_25 : decode cX10_init 25 = .ok (.putfield 16, 3) := by decide +kernel
theorem dX10_init_28 : decode cX10_init 28 = .ok (.aload_n 0, 1) := by decide +kernel
theorem dX10_init_29 : decode cX10_init 29 = .ok (.bipush 20, 2) := by decide +kernel
theorem dX10_init_31 : decode cX10_init 31 = .ok (.newarray .int, 2) := by decide +kernel
theorem dX10_init_33 : decode cX10_init 33 = .ok (.putfield 19, 3) := by decide +kernel
theorem dX10_init_36 : decode cX10_init 36 = .ok (.aload_n 0, 1) := by decide +kernel
theorem dX10_init_37 : decode cX10_init 37 = .ok (.bipush 20, 2) := by decide +kernel
theorem dX10_init_39 : decode cX10_init 39 = .ok (.newarray .int, 2) := by decide +kernel
theorem dX10_init_41 : decode cX10_init 41 = .ok (.putfield 22, 3) := by decide +kernel
theorem dX10_init_44 : decode cX10_init 44 = .ok (.aload_n 0, 1) := by decide +kernel
theorem dX10_init_45 : decode cX10_init 45 = .ok (.bipush 8, 2) := by decide +kernel
theorem dX10_init_47 : decode cX10_init 47 = .ok (.newarray .int, 2) := by decide +kernel
theorem dX10_init_49 : decode cX10_init 49 = .ok (.putfield 25, 3) := by decide +kernel
theorem dX10_init_52 : decode cX10_init 52 = .ok (.aload_n 0, 1) := by decide +kernel
theorem dX10_init_53 : decode cX10_init 53 = .ok (.bipush 8, 2) := by decide +kernel
theorem dX10_init_55 : decode cX10_init 55 = .ok (.newarray .int, 2) := by decide +kernel
theorem dX10_init_57 : decode cX10_init 57 = .ok (.putfield 28, 3) := by decide +kernel
theorem dX10_init_60 : decode cX10_init 60 = .ok (.aload_n 0, 1) := by decide +kernel
theorem dX10_init_61 : decode cX10_init 61 = .ok (.bipush 28, 2) := by decide +kernel
theorem dX10_init_63 : decode cX10_init 63 = .ok (.newarray .long, 2) := by decide +kernel
theorem dX10_init_65 : decode cX10_init 65 = .ok (.putfield 31, 3) := by decide +kernel
theorem dX10_init_68 : decode cX10_init 68 = .ok (.aload_n 0, 1) := by decide +kernel
theorem dX10_init_69 : decode cX10_init 69 = .ok (.bipush 28, 2) := by decide +kernel
theorem dX10_init_71 : decode cX10_init 71 = .ok (.newarray .long, 2) := by decide +kernel
theorem dX10_init_73 : decode cX10_init 73 = .ok (.putfield 35, 3) := by decide +kernel
theorem dX10_init_76 : decode cX10_init 76 = .ok (.aload_n 0, 1) := by decide +kernel
theorem dX10_init_77 : decode cX10_init 77 = .ok (.bipush 28, 2) := by decide +kernel
theorem dX10_init_79 : decode cX10_init 79 = .ok (.newarray .long, 2) := by decide +kernel
theorem dX10_init_81 : decode cX10_init 81 = .ok (.putfield 38, 3) := by decide +kernel
theorem dX10_init_84 : decode cX10_init 84 = .ok (.aload_n 0, 1) := by decide +kernel
theorem dX10_init_85 : decode cX10_init 85 = .ok (.bipush 28, 2) := by decide +kernel
theorem dX10_init_87 : decode cX10_init 87 = .ok (.newarray .int, 2) := by decide +kernel
theorem dX10_init_89 : decode cX10_init 89 = .ok (.putfield 41, 3) := by decide +kernel
theorem dX10_init_92 : decode cX10_init 92 = .ok (.aload_n 0, 1) := by decide +kernel
theorem dX10_init_93 : decode cX10_init 93 = .ok (.bipush 28, 2) := by decide +kernel
theorem dX10_init_95 : decode cX10_init 95 = .ok (.newarray .int, 2) := by decide +kernel
theorem dX10_init_97 : decode cX10_init 97 = .ok (.putfield 44, 3) := by decide +kernel
theorem dX10_init_100 : decode cX10_init 100 = .ok (.aload_n 0, 1) := by decide +kernel
theorem dX10_init_101 : decode cX10_init 101 = .ok (.bipush 28, 2) := by decide +kernel
theorem dX10_init_103 : decode cX10_init 103 = .ok (.newarray .int, 2) := by decide +kernel
theorem dX10_init_105 : decode cX10_init 105 = .ok (.putfield 47, 3) := by decide +kernel
theorem dX10_init_108 : decode cX10_init 108 = .ok (.aload_n 0, 1) := by decide +kernel
theorem dX10_init_109 : decode cX10_init 109 = .ok (.bipush 8, 2) := by decide +kernel
theorem dX10_init_111 : decode cX10_init 111 = .ok (.newarray .long, 2) := by decide +kernel
theorem dX10_init_113 : decode cX10_init 113 = .ok (.putfield 50, 3) := by decide +kernel
theorem dX10_init_116 : decode cX10_init 116 = .ok (.aload_n 0, 1) := by decide +kernel
theorem dX10_init_117 : decode cX10_init 117 = .ok (.bipush 9, 2) := by decide +kernel
theorem dX10_init_119 : decode cX10_init 119 = .ok (.newarray .int, 2) := by decide +kernel
theorem dX10_init_121 : decode cX10_init 121 = .ok (.putfield 53, 3) := by decide +kernel
theorem dX10_init_124 : decode cX10_init 124 = .ok (.aload_n 0, 1) := by decide +kernel
theorem dX10_init_125 : decode cX10_init 125 = .ok (.bipush 9, 2) := by decide +kernel
theorem dX10_init_127 : decode cX10_init 127 = .ok (.newarray .int, 2) := by decide +kernel
theorem dX10_init_129 : decode cX10_init 129 = .ok (.putfield 56, 3) := by decide +kernel
theorem dX10_init_132 : decode cX10_init 132 = .ok (.aload_n 0, 1) := by decide +kernel
theorem dX10_init_133 : decode cX10_init 133 = .ok (.bipush 9, 2) := by decide +kernel
theorem dX10_init_135 : decode cX10_init 135 = .ok (.newarray .int, 2) := by decide +kernel
theorem dX10_init_137 : decode cX10_init 137 = .ok (.putfield 59, 3) := by decide +kernel
theorem dX10_init_140 : decode cX10_init 140 = .ok (.aload_n 0, 1) := by decide +kernel
theorem dX10_init_141 : decode cX10_init 141 = .ok (.bipush 9, 2) := by decide +kernel
theorem dX10_init_143 : decode cX10_init 143 = .ok (.newarray .long, 2) := by decide +kernel
theorem dX10_init_145 : decode cX10_init 145 = .ok (.putfield 62, 3) := by decide +kernel
theorem dX10_init_148 : decode cX10_init 148 = .ok (.aload_n 0, 1) := by decide +kernel
theorem dX10_init_149 : decode cX10_init 149 = .ok (.sipush 20000, 3) := by decide +kernel
theorem dX10_init_152 : decode cX10_init 152 = .ok (.newarray .int, 2) := by decide +kernel
theorem dX10_init_154 : decode cX10_init 154 = .ok (.putfield 65, 3) := by decide +kernel
theorem dX10_init_157 : decode cX10_init 157 = .ok (.aload_n 0, 1) := by decide +kernel
theorem dX10_init_158 : decode cX10_init 158 = .ok (.sipush 20000, 3) := by decide +kernel
theorem dX10_init_161 : decode cX10_init 161 = .ok (.newarray .int, 2) := by decide +kernel
theorem dX10_init_163 : decode cX10_init 163 = .ok (.putfield 68, 3) := by decide +kernel
theorem dX10_init_166 : decode cX10_init 166 = .ok (.aload_n 0, 1) := by decide +kernel
theorem dX10_init_167 : decode cX10_init 167 = .ok (.bipush 20, 2) := by decide +kernel
theorem dX10_init_169 : decode cX10_init 169 = .ok (.newarray .int, 2) := by decide +kernel
theorem dX10_init_171 : decode cX10_init 171 = .ok (.putfield 71, 3) := by decide +kernel
theorem dX10_init_174 : decode cX10_init 174 = .ok (.aload_n 0, 1) := by decide +kernel
theorem dX10_init_175 : decode cX10_init 175 = .ok (.bipush 20, 2) := by decide +kernel
theorem dX10_init_177 : decode cX10_init 177 = .ok (.newarray .boolean, 2) := by decide +kernel
theorem dX10_init_179 : decode cX10_init 179 = .ok (.putfield 74, 3) := by decide +kernel
theorem dX10_init_182 : decode cX10_init 182 = .ok (.aload_n 0, 1) := by decide +kernel
theorem dX10_init_183 : decode cX10_init 183 = .ok (.bipush 9, 2) := by decide +kernel
theorem dX10_init_185 : decode cX10_init 185 = .ok (.newarray .long, 2) := by decide +kernel
theorem dX10_init_187 : decode cX10_init 187 = .ok (.putfield 78, 3) := by decide +kernel
theorem dX10_init_190 : decode cX10_init 190 = .ok (.aload_n 0, 1) := by decide +kernel
theorem dX10_init_191 : decode cX10_init 191 = .ok (.bipush 9, 2) := by decide +kernel
theorem dX10_init_193 : decode cX10_init 193 = .ok (.newarray .long, 2) := by decide +kernel
theorem dX10_init_195 : decode cX10_init 195 = .ok (.putfield 81, 3) := by decide +kernel
theorem dX10_init_198 : decode cX10_init 198 = .ok (.aload_n 0, 1) := by decide +kernel
theorem dX10_init_199 : decode cX10_init 199 = .ok (.sipush 500, 3) := by decide +kernel
theorem dX10_init_202 : decode cX10_init 202 = .ok (.newarray .long, 2) := by decide +kernel
theorem dX10_init_204 : decode cX10_init 204 = .ok (.putfield 84, 3) := by decide +kernel
theorem dX10_init_207 : decode cX10_init 207 = .ok (.aload_n 0, 1) := by decide +kernel
theorem dX10_init_208 : decode cX10_init 208 = .ok (.sipush 500, 3) := by decide +kernel
theorem dX10_init_211 : decode cX10_init 211 = .ok (.newarray .long, 2) := by decide +kernel
theorem dX10_init_213 : decode cX10_init 213 = .ok (.putfield 87, 3) := by decide +kernel
theorem dX10_init_216 : decode cX10_init 216 = .ok (.aload_n 0, 1) := by decide +kernel
theorem dX10_init_217 : decode cX10_init 217 = .ok (.sipush 500, 3) := by decide +kernel
theorem dX10_init_220 : decode cX10_init 220 = .ok (.newarray .long, 2) := by decide +kernel
theorem dX10_init_222 : decode cX10_init 222 = .ok (.putfield 90, 3) := by decide +kernel
theorem dX10_init_225 : decode cX10_init 225 = .ok (.aload_n 0, 1) := by decide +kernel
theorem dX10_init_226 : decode cX10_init 226 = .ok (.sipush 500, 3) := by decide +kernel
theorem dX10_init_229 : decode cX10_init 229 = .ok (.newarray .long, 2) := by decide +kernel
theorem dX10_init_231 : decode cX10_init 231 = .ok (.putfield 93, 3) := by decide +kernel
theorem dX10_init_234 : decode cX10_init 234 = .ok (.aload_n 0, 1) := by decide +kernel
theorem dX10_init_235 : decode cX10_init 235 = .ok (.sipush 500, 3) := by decide +kernel
theorem dX10_init_238 : decode cX10_init 238 = .ok (.newarray .boolean, 2) := by decide +kernel
theorem dX10_init_240 : decode cX10_init 240 = .ok (.putfield 96, 3) := by decide +kernel
theorem dX10_init_243 : decode cX10_init 243 = .ok (.aload_n 0, 1) := by decide +kernel
theorem dX10_init_244 : decode cX10_init 244 = .ok (.sipush 500, 3) := by decide +kernel
theorem dX10_init_247 : decode cX10_init 247 = .ok (.newarray .long, 2) := by decide +kernel
theorem dX10_init_249 : decode cX10_init 249 = .ok (.putfield 99, 3) := by decide +kernel
theorem dX10_init_252 : decode cX10_init 252 = .ok (.aload_n 0, 1) := by decide +kernel
theorem dX10_init_253 : decode cX10_init 253 = .ok (.iconst 2, 1) := by decide +kernel
theorem dX10_init_254 : decode cX10_init 254 = .ok (.invokevirtual 102, 3) := by decide +kernel
theorem dX10_init_257 : decode cX10_init 257 = .ok (.return_, 1) := by decide +kernel
theorem dX10_in_0 : decode cX10_in 0 = .ok (.iload_n 0, 1) := by decide +kernel
theorem dX10_in_1 : decode cX10_in 1 = .ok (.iload_n 1, 1) := by decide +kernel
theorem dX10_in_2 : decode cX10_in 2 = .ok (.if_icmp .lt 12, 3) := by decide +kernel
theorem dX10_in_5 : decode cX10_in 5 = .ok (.iload_n 0, 1) := by decide +kernel
theorem dX10_in_6 : decode cX10_in 6 = .ok (.iload_n 2, 1) := by decide +kernel
theorem dX10_in_7 : decode cX10_in 7 = .ok (.if_icmp .gt 7, 3) := by decide +kernel
theorem dX10_in_10 : decode cX10_in 10 = .ok (.iconst 1, 1) := by decide +kernel
theorem dX10_in_11 : decode cX10_in 11 = .ok (.goto 4, 3) := by decide +kernel
theorem dX10_in_14 : decode cX10_in 14 = .ok (.iconst 0, 1) := by decide +kernel
theorem dX10_in_15 : decode cX10_in 15 = .ok (.ireturn, 1) := by decide +kernel
theorem dX10_lost_0 : decode cX10_lost 0 = .ok (.ldc2_w 106, 3) := by decide +kernel
theorem dX10_lost_3 : decode cX10_lost 3 = .ok (.lreturn, 1) := by decide +kernel
theorem dX10_size_0 : decode cX10_size 0 = .ok (.lload_n 0, 1) := by decide +kernel
theorem dX10_size_1 : decode cX10_size 1 = .ok (.lconst 0, 1) := by decide +kernel
theorem dX10_size_2 : decode cX10_size 2 = .ok (.lcmp, 1) := by decide +kernel
theorem dX10_size_3 : decode cX10_size 3 = .ok (.ifCond .ge 8, 3) := by decide +kernel
theorem dX10_size_6 : decode cX10_size 6 = .ok (.lload_n 0, 1) := by decide +kernel
theorem dX10_size_7 : decode cX10_size 7 = .ok (.lneg, 1) := by decide +kernel
theorem dX10_size_8 : decode cX10_size 8 = .ok (.goto 4, 3) := by decide +kernel
theorem dX10_size_11 : decode cX10_size 11 = .ok (.lload_n 0, 1) := by decide +kernel
theorem dX10_size_12 : decode cX10_size 12 = .ok (.lreturn, 1) := by decide +kernel
theorem dX10_common_0 : decode cX10_common 0 = .ok (.lload_n 0, 1) := by decide +kernel
theorem dX10_common_1 : decode cX10_common 1 = .ok (.invokestatic 108, 3) := by decide +kernel
theorem dX10_common_4 : decode cX10_common 4 = .ok (.lstore 4, 2) := by decide +kernel
theorem dX10_common_6 : decode cX10_common 6 = .ok (.lload_n 2, 1) := by decide +kernel
theorem dX10_common_7 : decode cX10_common 7 = .ok (.invokestatic 108, 3) := by decide +kernel
theorem dX10_common_10 : decode cX10_common 10 = .ok (.lstore 6, 2) := by decide +kernel
theorem dX10_common_12 : decode cX10_common 12 = .ok (.lload 6, 2) := by decide +kernel
theorem dX10_common_14 : decode cX10_common 14 = .ok (.lconst 0, 1) := by decide +kernel
theorem dX10_common_15 : decode cX10_common 15 = .ok (.lcmp, 1) := by decide +kernel
theorem dX10_common_16 : decode cX10_common 16 = .ok (.ifCond .eq 21, 3) := by decide +kernel
theorem dX10_common_19 : decode cX10_common 19 = .ok (.lload 4, 2) := by decide +kernel
theorem dX10_common_21 : decode cX10_common 21 = .ok (.lload 6, 2) := by decide +kernel
theorem dX10_common_23 : decode cX10_common 23 = .ok (.lrem, 1) := by decide +kernel
theorem dX10_common_24 : decode cX10_common 24 = .ok (.lstore 8, 2) := by decide +kernel
theorem dX10_common_26 : decode cX10_common 26 = .ok (.lload 6, 2) := by decide +kernel
theorem dX10_common_28 : decode cX10_common 28 = .ok (.lstore 4, 2) := by decide +kernel
theorem dX10_common_30 : decode cX10_common 30 = .ok (.lload 8, 2) := by decide +kernel
theorem dX10_common_32 : decode cX10_common 32 = .ok (.lstore 6, 2) := by decide +kernel
theorem dX10_common_34 : decode cX10_common 34 = .ok (.goto (-22), 3) := by decide +kernel
theorem dX10_common_37 : decode cX10_common 37 = .ok (.lload 4, 2) := by decide +kernel
theorem dX10_common_39 : decode cX10_common 39 = .ok (.lreturn, 1) := by decide +kernel
theorem dX10_part_0 : decode cX10_part 0 = .ok (.lload_n 0, 1) := by decide +kernel
theorem dX10_part_1 : decode cX10_part 1 = .ok (.lload_n 2, 1) := by decide +kernel
theorem dX10_part_2 : decode cX10_part 2 = .ok (.invokestatic 112, 3) := by decide +kernel
theorem dX10_part_5 : decode cX10_part 5 = .ok (.lload_n 2, 1) := by decide +kernel
theorem dX10_part_6 : decode cX10_part 6 = .ok (.lconst 0, 1) := by decide +kernel
theorem dX10_part_7 : decode cX10_part 7 = .ok (.lcmp, 1) := by decide +kernel
theorem dX10_part_8 : decode cX10_part 8 = .ok (.ifCond .ge 9, 3) := by decide +kernel
theorem dX10_part_11 : decode cX10_part 11 = .ok (.ldc2_w 116, 3) := by decide +kernel
theorem dX10_part_14 : decode cX10_part 14 = .ok (.goto 4, 3) := by decide +kernel
theorem dX10_part_17 : decode cX10_part 17 = .ok (.lconst 1, 1) := by decide +kernel
theorem dX10_part_18 : decode cX10_part 18 = .ok (.lmul, 1) := by decide +kernel
theorem dX10_part_19 : decode cX10_part 19 = .ok (.lstore 5, 2) := by decide +kernel
theorem dX10_part_21 : decode cX10_part 21 = .ok (.iload 4, 2) := by decide +kernel
theorem dX10_part_23 : decode cX10_part 23 = .ok (.ifCond .eq 10, 3) := by decide +kernel
theorem dX10_part_26 : decode cX10_part 26 = .ok (.lload_n 2, 1) := by decide +kernel
theorem dX10_part_27 : decode cX10_part 27 = .ok (.lload 5, 2) := by decide +kernel
theorem dX10_part_29 : decode cX10_part 29 = .ok (.ldiv, 1) := by decide +kernel
theorem dX10_part_30 : decode cX10_part 30 = .ok (.goto 7, 3) := by decide +kernel
theorem dX10_part_33 : decode cX10_part 33 = .ok (.lload_n 0, 1) := by decide +kernel
theorem dX10_part_34 : decode cX10_part 34 = .ok (.lload 5, 2) := by decide +kernel
theorem dX10_part_36 : decode cX10_part 36 = .ok (.ldiv, 1) := by decide +kernel
theorem dX10_part_37 : decode cX10_part 37 = .ok (.lreturn, 1) := by decide +kernel
theorem dX10_begin_0 : decode cX10_begin 0 = .ok (.aload_n 0, 1) := by decide +kernel
theorem dX10_begin_1 : decode cX10_begin 1 = .ok (.iload_n 1, 1) := by decide +kernel
theorem dX10_begin_2 : decode cX10_begin 2 = .ok (.putfield 118, 3) := by decide +kernel
theorem dX10_begin_5 : decode cX10_begin 5 = .ok (.aload_n 0, 1) := by decide +kernel
theorem dX10_begin_6 : decode cX10_begin 6 = .ok (.iconst 0, 1) := by decide +kernel
theorem dX10_begin_7 : decode cX10_begin 7 = .ok (.putfield 122, 3) := by decide +kernel
theorem dX10_begin_10 : decode cX10_begin 10 = .ok (.aload_n 0, 1) := by decide +kernel
theorem dX10_begin_11 : decode cX10_begin 11 = .ok (.iconst 0, 1) := by decide +kernel
theorem dX10_begin_12 : decode cX10_begin 12 = .ok (.putfield 125, 3) := by decide +kernel
theorem dX10_begin_15 : decode cX10_begin 15 = .ok (.iconst 0, 1) := by decide +kernel
theorem dX10_begin_16 : decode cX10_begin 16 = .ok (.istore_n 2, 1) := by decide +kernel
theorem dX10_begin_17 : decode cX10_begin 17 = .ok (.iload_n 2, 1) := by decide +kernel
theorem dX10_begin_18 : decode cX10_begin 18 = .ok (.bipush 8, 2) := by decide +kernel
theorem dX10_begin_20 : decode cX10_begin 20 = .ok (.if_icmp .ge 23, 3) := by decide +kernel
theorem dX10_begin_23 : decode cX10_begin 23 = .ok (.aload_n 0, 1) := by decide +kernel
theorem dX10_begin_24 : decode cX10_begin 24 = .ok (.getfield 25, 3) := by decide +kernel
theorem dX10_begin_27 : decode cX10_begin 27 = .ok (.iload_n 2, 1) := by decide +kernel
theorem dX10_begin_28 : decode cX10_begin 28 = .ok (.iconst 0, 1) := by decide +kernel
theorem dX10_begin_29 : decode cX10_begin 29 = .ok (.iastore, 1) := by decide +kernel
theorem dX10_begin_30 : decode cX10_begin 30 = .ok (.aload_n 0, 1) := by decide +kernel
theorem dX10_begin_31 : decode cX10_begin 31 = .ok (.getfield 28, 3) := by decide +kernel
theorem dX10_begin_34 : decode cX10_begin 34 = .ok (.iload_n 2, 1) := by decide +kernel
theorem dX10_begin_35 : decode cX10_begin 35 = .ok (.iconst 0, 1) := by decide +kernel
theorem dX10_begin_36 : decode cX10_begin 36 = .ok (.iastore, 1) := by decide +kernel
theorem dX10_begin_37 : decode cX10_begin 37 = .ok (.iinc 2 1, 3) := by decide +kernel
theorem dX10_begin_40 : decode cX10_begin 40 = .ok (.goto (-23), 3) := by decide +kernel
theorem dX10_begin_43 : decode cX10_begin 43 = .ok (.aload_n 0, 1) := by decide +kernel
theorem dX10_begin_44 : decode cX10_begin 44 = .ok (.iconst 0, 1) := by decide +kernel
theorem dX10_begin_45 : decode cX10_begin 45 = .ok (.putfield 128, 3) := by decide +kernel
theorem dX10_begin_48 : decode cX10_begin 48 = .ok (.return_, 1) := by decide +kernel
theorem dX10_reset_0 : decode cX10_reset 0 = .ok (.iload_n 1, 1) := by decide +kernel
theorem dX10_reset_1 : decode cX10_reset 1 = .ok (.iconst 2, 1) := by decide +kernel
theorem dX10_reset_2 : decode cX10_reset 2 = .ok (.bipush 8, 2) := by decide +kernel
theorem dX10_reset_4 : decode cX10_reset 4 = .ok (.invokestatic 132, 3) := by decide +kernel
theorem dX10_reset_7 : decode cX10_reset 7 = .ok (.ifCond .ne 7, 3) := by decide +kernel
theorem dX10_reset_10 : decode cX10_reset 10 = .ok (.sipush (-10002), 3) := by decide +kernel
theorem dX10_reset_13 : decode cX10_reset 13 = .ok (.ireturn, 1) := by decide +kernel
theorem dX10_reset_14 : decode cX10_reset 14 = .ok (.aload_n 0, 1) := by decide +kernel
theorem dX10_reset_15 : decode cX10_reset 15 = .ok (.getfield 118, 3) := by decide +kernel
theorem dX10_reset_18 : decode cX10_reset 18 = .ok (.istore_n 2, 1) := by decide +kernel
theorem dX10_reset_19 : decode cX10_reset 19 = .ok (.aload_n 0, 1) := by decide +kernel
theorem dX10_reset_20 : decode cX10_reset 20 = .ok (.iload_n 1, 1) := by decide +kernel
theorem dX10_reset_21 : decode cX10_reset 21 = .ok (.invokevirtual 102, 3) := by decide +kernel
theorem dX10_reset_24 : decode cX10_reset 24 = .ok (.iload_n 2, 1) := by decide +kernel
theorem dX10_reset_25 : decode cX10_reset 25 = .ok (.ireturn, 1) := by decide +kernel
theorem dX10_noNode_0 : decode cX10_noNode 0 = .ok (.iload_n 1, 1) := by decide +kernel
theorem dX10_noNode_1 : decode cX10_noNode 1 = .ok (.iconst 0, 1) := by decide +kernel
theorem dX10_noNode_2 : decode cX10_noNode 2 = .ok (.aload_n 0, 1) := by decide +kernel
theorem dX10_noNode_3 : decode cX10_noNode 3 = .ok (.getfield 118, 3) := by decide +kernel
theorem dX10_noNode_6 : decode cX10_noNode 6 = .ok (.iconst 1, 1) := by decide +kernel
theorem dX10_noNode_7 : decode cX10_noNode 7 = .ok (.isub, 1) := by decide +kernel
theorem dX10_noNode_8 : decode cX10_noNode 8 = .ok (.invokestatic 132, 3) := by decide +kernel
theorem dX10_noNode_11 : decode cX10_noNode 11 = .ok (.ifCond .ne 7, 3) := by decide +kernel
theorem dX10_noNode_14 : decode cX10_noNode 14 = .ok (.iconst 1, 1) := by decide +kernel
theorem dX10_noNode_15 : decode cX10_noNode 15 = .ok (.goto 4, 3) := by decide +kernel
theorem dX10_noNode_18 : decode cX10_noNode 18 = .ok (.iconst 0, 1) := by decide +kernel
theorem dX10_noNode_19 : decode cX10_noNode 19 = .ok (.ireturn, 1) := by decide +kernel
theorem dX10_noArc_0 : decode cX10_noArc 0 = .ok (.iload_n 1, 1) := by decide +kernel
theorem dX10_noArc_1 : decode cX10_noArc 1 = .ok (.iconst 0, 1) := by decide +kernel
theorem dX10_noArc_2 : decode cX10_noArc 2 = .ok (.aload_n 0, 1) := by decide +kernel
theorem dX10_noArc_3 : decode cX10_noArc 3 = .ok (.getfield 122, 3) := by decide +kernel
theorem dX10_noArc_6 : decode cX10_noArc 6 = .ok (.iconst 1, 1) := by decide +kernel
theorem dX10_noArc_7 : decode cX10_noArc 7 = .ok (.isub, 1) := by decide +kernel
theorem dX10_noArc_8 : decode cX10_noArc 8 = .ok (.invokestatic 132, 3) := by decide +kernel
theorem dX10_noArc_11 : decode cX10_noArc 11 = .ok (.ifCond .ne 7, 3) := by decide +kernel
theorem dX10_noArc_14 : decode cX10_noArc 14 = .ok (.iconst 1, 1) := by decide +kernel
theorem dX10_noArc_15 : decode cX10_noArc 15 = .ok (.goto 4, 3) := by decide +kernel
theorem dX10_noArc_18 : decode cX10_noArc 18 = .ok (.iconst 0, 1) := by decide +kernel
theorem dX10_noArc_19 : decode cX10_noArc 19 = .ok (.ireturn, 1) := by decide +kernel
theorem dX10_isCapacity_0 : decode cX10_isCapacity 0 = .ok (.iload_n 0, 1) := by decide +kernel
theorem dX10_isCapacity_1 : decode cX10_isCapacity 1 = .ok (.iconst 1, 1) := by decide +kernel
theorem dX10_isCapacity_2 : decode cX10_isCapacity 2 = .ok (.sipush 1000, 3) := by decide +kernel
theorem dX10_isCapacity_5 : decode cX10_isCapacity 5 = .ok (.invokestatic 132, 3) := by decide +kernel
theorem dX10_isCapacity_8 : decode cX10_isCapacity 8 = .ok (.ireturn, 1) := by decide +kernel
theorem dX10_isCost_0 : decode cX10_isCost 0 = .ok (.iload_n 0, 1) := by decide +kernel
theorem dX10_isCost_1 : decode cX10_isCost 1 = .ok (.bipush (-100), 2) := by decide +kernel
theorem dX10_isCost_3 : decode cX10_isCost 3 = .ok (.bipush 100, 2) := by decide +kernel
theorem dX10_isCost_5 : decode cX10_isCost 5 = .ok (.invokestatic 132, 3) := by decide +kernel
theorem dX10_isCost_8 : decode cX10_isCost 8 = .ok (.ireturn, 1) := by decide +kernel
theorem dX10_isSlope_0 : decode cX10_isSlope 0 = .ok (.iload_n 0, 1) := by decide +kernel
theorem dX10_isSlope_1 : decode cX10_isSlope 1 = .ok (.bipush (-20), 2) := by decide +kernel
theorem dX10_isSlope_3 : decode cX10_isSlope 3 = .ok (.bipush 20, 2) := by decide +kernel
theorem dX10_isSlope_5 : decode cX10_isSlope 5 = .ok (.invokestatic 132, 3) := by decide +kernel
theorem dX10_isSlope_8 : decode cX10_isSlope 8 = .ok (.ireturn, 1) := by decide +kernel
theorem dX10_addArc_0 : decode cX10_addArc 0 = .ok (.aload_n 0, 1) := by decide +kernel
theorem dX10_addArc_1 : decode cX10_addArc 1 = .ok (.iload_n 1, 1) := by decide +kernel
theorem dX10_addArc_2 : decode cX10_addArc 2 = .ok (.invokevirtual 136, 3) := by decide +kernel
theorem dX10_addArc_5 : decode cX10_addArc 5 = .ok (.ifCond .ne 11, 3) := by decide +kernel
theorem dX10_addArc_8 : decode cX10_addArc 8 = .ok (.aload_n 0, 1) := by decide +kernel
theorem dX10_addArc_9 : decode cX10_addArc 9 = .ok (.iload_n 2, 1) := by decide +kernel
theorem dX10_addArc_10 : decode cX10_addArc 10 = .ok (.invokevirtual 136, 3) := by decide +kernel
theorem dX10_addArc_13 : decode cX10_addArc 13 = .ok (.ifCond .eq 7, 3) := by decide +kernel
theorem dX10_addArc_16 : decode cX10_addArc 16 = .ok (.sipush (-10001), 3) := by decide +kernel
theorem dX10_addArc_19 : decode cX10_addArc 19 = .ok (.ireturn, 1) := by decide +kernel
theorem dX10_addArc_20 : decode cX10_addArc 20 = .ok (.iload_n 1, 1) := by decide +kernel
theorem dX10_addArc_21 : decode cX10_addArc 21 = .ok (.iload_n 2, 1) := by decide +kernel
theorem dX10_addArc_22 : decode cX10_addArc 22 = .ok (.if_icmp .eq 26, 3) := by decide +kernel
theorem dX10_addArc_25 : decode cX10_addArc 25 = .ok (.iload_n 3, 1) := by decide +kernel
theorem dX10_addArc_26 : decode cX10_addArc 26 = .ok (.invokestatic 140, 3) := by decide +kernel
theorem dX10_addArc_29 : decode cX10_addArc 29 = .ok (.ifCond .eq 19, 3) := by decide +kernel
theorem dX10_addArc_32 : decode cX10_addArc 32 = .ok (.iload 4, 2) := by decide +kernel
theorem dX10_addArc_34 : decode cX10_addArc 34 = .ok (.invokestatic 143, 3) := by decide +kernel
theorem dX10_addArc_37 : decode cX10_addArc 37 = .ok (.ifCond .eq 11, 3) := by decide +kernel
theorem dX10_addArc_40 : decode cX10_addArc 40 = .ok (.iload 5, 2) := by decide +kernel
theorem dX10_addArc_42 : decode cX10_addArc 42 = .ok (.invokestatic 146, 3) := by decide +kernel
theorem dX10_addArc_45 : decode cX10_addArc 45 = .ok (.ifCond .ne 7, 3) := by decide +kernel
theorem dX10_addArc_48 : decode cX10_addArc 48 = .ok (.sipush (-10002), 3) := by decide +kernel
theorem dX10_addArc_51 : decode cX10_addArc 51 = .ok (.ireturn, 1) := by decide +kernel
theorem dX10_addArc_52 : decode cX10_addArc 52 = .ok (.aload_n 0, 1) := by decide +kernel
theorem dX10_addArc_53 : decode cX10_addArc 53 = .ok (.getfield 122, 3) := by decide +kernel
theorem dX10_addArc_56 : decode cX10_addArc 56 = .ok (.bipush 20, 2) := by decide +kernel
theorem dX10_addArc_58 : decode cX10_addArc 58 = .ok (.if_icmp .ne 7, 3) := by decide +kernel
theorem dX10_addArc_61 : decode cX10_addArc 61 = .ok (.sipush (-10006), 3) := by decide +kernel
theorem dX10_addArc_64 : decode cX10_addArc 64 = .ok (.ireturn, 1) := by decide +kernel
theorem dX10_addArc_65 : decode cX10_addArc 65 = .ok (.aload_n 0, 1) := by decide +kernel
theorem dX10_addArc_66 : decode cX10_addArc 66 = .ok (.getfield 7, 3) := by decide +kernel
theorem dX10_addArc_69 : decode cX10_addArc 69 = .ok (.aload_n 0, 1) := by decide +kernel
theorem dX10_addArc_70 : decode cX10_addArc 70 = .ok (.getfield 122, 3) := by decide +kernel
theorem dX10_addArc_73 : decode cX10_addArc 73 = .ok (.iload_n 1, 1) := by decide +kernel
theorem dX10_addArc_74 : decode cX10_addArc 74 = .ok (.iastore, 1) := by decide +kernel
theorem dX10_addArc_75 : decode cX10_addArc 75 = .ok (.aload_n 0, 1) := by decide +kernel
theorem dX10_addArc_76 : decode cX10_addArc 76 = .ok (.getfield 13, 3) := by decide +kernel
theorem dX10_addArc_79 : decode cX10_addArc 79 = .ok (.aload_n 0, 1) := by decide +kernel
theorem dX10_addArc_80 : decode cX10_addArc 80 = .ok (.getfield 122, 3) := by decide +kernel
theorem dX10_addArc_83 : decode cX10_addArc 83 = .ok (.iload_n 2, 1) := by decide +kernel
theorem dX10_addArc_84 : decode cX10_addArc 84 = .ok (.iastore, 1) := by decide +kernel
theorem dX10_addArc_85 : decode cX10_addArc 85 = .ok (.aload_n 0, 1) := by decide +kernel
theorem dX10_addArc_86 : decode cX10_addArc 86 = .ok (.getfield 16, 3) := by decide +kernel
theorem dX10_addArc_89 : decode cX10_addArc 89 = .ok (.aload_n 0, 1) := by decide +kernel
theorem dX10_addArc_90 : decode cX10_addArc 90 = .ok (.getfield 122, 3) := by decide +kernel
theorem dX10_addArc_93 : decode cX10_addArc 93 = .ok (.iload_n 3, 1) := by decide +kernel
theorem dX10_addArc_94 : decode cX10_addArc 94 = .ok (.iastore, 1) := by decide +kernel
theorem dX10_addArc_95 : decode cX10_addArc 95 = .ok (.aload_n 0, 1) := by decide +kernel
theorem dX10_addArc_96 : decode cX10_addArc 96 = .ok (.getfield 19, 3) := by decide +kernel
theorem dX10_addArc_99 : decode cX10_addArc 99 = .ok (.aload_n 0, 1) := by decide +kernel
theorem dX10_addArc_100 : decode cX10_addArc 100 = .ok (.getfield 122, 3) := by decide +kernel
theorem dX10_addArc_103 : decode cX10_addArc 103 = .ok (.iload 4, 2) := by decide +kernel
theorem dX10_addArc_105 : decode cX10_addArc 105 = .ok (.iastore, 1) := by decide +kernel
theorem dX10_addArc_106 : decode cX10_addArc 106 = .ok (.aload_n 0, 1) := by decide +kernel
theorem dX10_addArc_107 : decode cX10_addArc 107 = .ok (.getfield 22, 3) := by decide +kernel
theorem dX10_addArc_110 : decode cX10_addArc 110 = .ok (.aload_n 0, 1) := by decide +kernel
theorem dX10_addArc_111 : decode cX10_addArc 111 = .ok (.getfield 122, 3) := by decide +kernel
theorem dX10_addArc_114 : decode cX10_addArc 114 = .ok (.iload 5, 2) := by decide +kernel
theorem dX10_addArc_116 : decode cX10_addArc 116 = .ok (.iastore, 1) := by decide +kernel
theorem dX10_addArc_117 : decode cX10_addArc 117 = .ok (.aload_n 0, 1) := by decide +kernel
theorem dX10_addArc_118 : decode cX10_addArc 118 = .ok (.dup, 1) := by decide +kernel
theorem dX10_addArc_119 : decode cX10_addArc 119 = .ok (.getfield 122, 3) := by decide +kernel
theorem dX10_addArc_122 : decode cX10_addArc 122 = .ok (.iconst 1, 1) := by decide +kernel
theorem dX10_addArc_123 : decode cX10_addArc 123 = .ok (.iadd, 1) := by decide +kernel
theorem dX10_addArc_124 : decode cX10_addArc 124 = .ok (.putfield 122, 3) := by decide +kernel
theorem dX10_addArc_127 : decode cX10_addArc 127 = .ok (.aload_n 0, 1) := by decide +kernel
theorem dX10_addArc_128 : decode cX10_addArc 128 = .ok (.iconst 0, 1) := by decide +kernel
theorem dX10_addArc_129 : decode cX10_addArc 129 = .ok (.putfield 128, 3) := by decide +kernel
theorem dX10_addArc_132 : decode cX10_addArc 132 = .ok (.aload_n 0, 1) := by decide +kernel
theorem dX10_addArc_133 : decode cX10_addArc 133 = .ok (.getfield 122, 3) := by decide +kernel
theorem dX10_addArc_136 : decode cX10_addArc 136 = .ok (.iconst 1, 1) := by decide +kernel
theorem dX10_addArc_137 : decode cX10_addArc 137 = .ok (.isub, 1) := by decide +kernel
theorem dX10_addArc_138 : decode cX10_addArc 138 = .ok (.ireturn, 1) := by decide +kernel
theorem dX10_removeArc_0 : decode cX10_removeArc 0 = .ok (.aload_n 0, 1) := by decide +kernel
theorem dX10_removeArc_1 : decode cX10_removeArc 1 = .ok (.getfield 122, 3) := by decide +kernel
theorem dX10_removeArc_4 : decode cX10_removeArc 4 = .ok (.ifCond .ne 7, 3) := by decide +kernel
theorem dX10_removeArc_7 : decode cX10_removeArc 7 = .ok (.sipush (-10007), 3) := by decide +kernel
theorem dX10_removeArc_10 : decode cX10_removeArc 10 = .ok (.ireturn, 1) := by decide +kernel
theorem dX10_removeArc_11 : decode cX10_removeArc 11 = .ok (.aload_n 0, 1) := by decide +kernel
theorem dX10_removeArc_12 : decode cX10_removeArc 12 = .ok (.dup, 1) := by decide +kernel
theorem dX10_removeArc_13 : decode cX10_removeArc 13 = .ok (.getfield 122, 3) := by decide +kernel
theorem dX10_removeArc_16 : decode cX10_removeArc 16 = .ok (.iconst 1, 1) := by decide +kernel
theorem dX10_removeArc_17 : decode cX10_removeArc 17 = .ok (.isub, 1) := by decide +kernel
theorem dX10_removeArc_18 : decode cX10_removeArc 18 = .ok (.putfield 122, 3) := by decide +kernel
theorem dX10_removeArc_21 : decode cX10_removeArc 21 = .ok (.aload_n 0, 1) := by decide +kernel
theorem dX10_removeArc_22 : decode cX10_removeArc 22 = .ok (.iconst 0, 1) := by decide +kernel
theorem dX10_removeArc_23 : decode cX10_removeArc 23 = .ok (.putfield 128, 3) := by decide +kernel
theorem dX10_removeArc_26 : decode cX10_removeArc 26 = .ok (.aload_n 0, 1) := by decide +kernel
theorem dX10_removeArc_27 : decode cX10_removeArc 27 = .ok (.getfield 122, 3) := by decide +kernel
theorem dX10_removeArc_30 : decode cX10_removeArc 30 = .ok (.ireturn, 1) := by decide +kernel
theorem dX10_setArc_0 : decode cX10_setArc 0 = .ok (.aload_n 0, 1) := by decide +kernel
theorem dX10_setArc_1 : decode cX10_setArc 1 = .ok (.iload_n 1, 1) := by decide +kernel
theorem dX10_setArc_2 : decode cX10_setArc 2 = .ok (.invokevirtual 149, 3) := by decide +kernel
theorem dX10_setArc_5 : decode cX10_setArc 5 = .ok (.ifCond .eq 7, 3) := by decide +kernel
theorem dX10_setArc_8 : decode cX10_setArc 8 = .ok (.sipush (-10001), 3) := by decide +kernel
theorem dX10_setArc_11 : decode cX10_setArc 11 = .ok (.ireturn, 1) := by decide +kernel
theorem dX10_setArc_12 : decode cX10_setArc 12 = .ok (.iload_n 2, 1) := by decide +kernel
theorem dX10_setArc_13 : decode cX10_setArc 13 = .ok (.iconst 0, 1) := by decide +kernel
theorem dX10_setArc_14 : decode cX10_setArc 14 = .ok (.iconst 2, 1) := by decide +kernel
theorem dX10_setArc_15 : decode cX10_setArc 15 = .ok (.invokestatic 132, 3) := by decide +kernel
theorem dX10_setArc_18 : decode cX10_setArc 18 = .ok (.ifCond .eq 39, 3) := by decide +kernel
theorem dX10_setArc_21 : decode cX10_setArc 21 = .ok (.iload_n 2, 1) := by decide +kernel
theorem dX10_setArc_22 : decode cX10_setArc 22 = .ok (.ifCond .ne 13, 3) := by decide +kernel
theorem dX10_setArc_25 : decode cX10_setArc 25 = .ok (.iload_n 3, 1) := by decide +kernel
theorem dX10_setArc_26 : decode cX10_setArc 26 = .ok (.invokestatic 140, 3) := by decide +kernel
theorem dX10_setArc_29 : decode cX10_setArc 29 = .ok (.ifCond .eq 28, 3) := by decide +kernel
theorem dX10_setArc_32 : decode cX10_setArc 32 = .ok (.goto 29, 3) := by decide +kernel
theorem dX10_setArc_35 : decode cX10_setArc 35 = .ok (.iload_n 2, 1) := by decide +kernel
theorem dX10_setArc_36 : decode cX10_setArc 36 = .ok (.iconst 1, 1) := by decide +kernel
theorem dX10_setArc_37 : decode cX10_setArc 37 = .ok (.if_icmp .ne 13, 3) := by decide +kernel
theorem dX10_setArc_40 : decode cX10_setArc 40 = .ok (.iload_n 3, 1) := by decide +kernel
theorem dX10_setArc_41 : decode cX10_setArc 41 = .ok (.invokestatic 143, 3) := by decide +kernel
theorem dX10_setArc_44 : decode cX10_setArc 44 = .ok (.ifCond .eq 13, 3) := by decide +kernel
theorem dX10_setArc_47 : decode cX10_setArc 47 = .ok (.goto 14, 3) := by decide +kernel
theorem dX10_setArc_50 : decode cX10_setArc 50 = .ok (.iload_n 3, 1) := by decide +kernel
theorem dX10_setArc_51 : decode cX10_setArc 51 = .ok (.invokestatic 146, 3) := by decide +kernel
theorem dX10_setArc_54 : decode cX10_setArc 54 = .ok (.ifCond .ne 7, 3) := by decide +kernel
theorem dX10_setArc_57 : decode cX10_setArc 57 = .ok (.sipush (-10002), 3) := by decide +kernel
theorem dX10_setArc_60 : decode cX10_setArc 60 = .ok (.ireturn, 1) := by decide +kernel
theorem dX10_setArc_61 : decode cX10_setArc 61 = .ok (.iload_n 2, 1) := by decide +kernel
theorem dX10_setArc_62 : decode cX10_setArc 62 = .ok (.ifCond .ne 12, 3) := by decide +kernel
theorem dX10_setArc_65 : decode cX10_setArc 65 = .ok (.aload_n 0, 1) := by decide +kernel
theorem dX10_setArc_66 : decode cX10_setArc 66 = .ok (.getfield 16, 3) := by decide +kernel
theorem dX10_setArc_69 : decode cX10_setArc 69 = .ok (.iload_n 1, 1) := by decide +kernel
theorem dX10_setArc_70 : decode cX10_setArc 70 = .ok (.iaload, 1) := by decide +kernel
theorem dX10_setArc_71 : decode cX10_setArc 71 = .ok (.goto 23, 3) := by decide +kernel
theorem dX10_setArc_74 : decode cX10_setArc 74 = .ok (.iload_n 2, 1) := by decide +kernel
theorem dX10_setArc_75 : decode cX10_setArc 75 = .ok (.iconst 1, 1) := by decide +kernel
theorem dX10_setArc_76 : decode cX10_setArc 76 = .ok (.if_icmp .ne 12, 3) := by decide +kernel
theorem dX10_setArc_79 : decode cX10_setArc 79 = .ok (.aload_n 0, 1) := by decide +kernel
theorem dX10_setArc_80 : decode cX10_setArc 80 = .ok (.getfield 19, 3) := by decide +kernel
theorem dX10_setArc_83 : decode cX10_setArc 83 = .ok (.iload_n 1, 1) := by decide +kernel
theorem dX10_setArc_84 : decode cX10_setArc 84 = .ok (.iaload, 1) := by decide +kernel
theorem dX10_setArc_85 : decode cX10_setArc 85 = .ok (.goto 9, 3) := by decide +kernel
theorem dX10_setArc_88 : decode cX10_setArc 88 = .ok (.aload_n 0, 1) := by decide +kernel
theorem dX10_setArc_89 : decode cX10_setArc 89 = .ok (.getfield 22, 3) := by decide +kernel
theorem dX10_setArc_92 : decode cX10_setArc 92 = .ok (.iload_n 1, 1) := by decide +kernel
theorem dX10_setArc_93 : decode cX10_setArc 93 = .ok (.iaload, 1) := by decide +kernel
theorem dX10_setArc_94 : decode cX10_setArc 94 = .ok (.istore 4, 2) := by decide +kernel
theorem dX10_setArc_96 : decode cX10_setArc 96 = .ok (.aload_n 0, 1) := by decide +kernel
theorem dX10_setArc_97 : decode cX10_setArc 97 = .ok (.getfield 16, 3) := by decide +kernel
theorem dX10_setArc_100 : decode cX10_setArc 100 = .ok (.iload_n 1, 1) := by decide +kernel
theorem dX10_setArc_101 : decode cX10_setArc 101 = .ok (.iload_n 2, 1) := by decide +kernel
theorem dX10_setArc_102 : decode cX10_setArc 102 = .ok (.ifCond .ne 7, 3) := by decide +kernel
theorem dX10_setArc_105 : decode cX10_setArc 105 = .ok (.iload_n 3, 1) := by decide +kernel
theorem dX10_setArc_106 : decode cX10_setArc 106 = .ok (.goto 9, 3) := by decide +kernel
theorem dX10_setArc_109 : decode cX10_setArc 109 = .ok (.aload_n 0, 1) := by decide +kernel
theorem dX10_setArc_110 : decode cX10_setArc 110 = .ok (.getfield 16, 3) := by decide +kernel
theorem dX10_setArc_113 : decode cX10_setArc 113 = .ok (.iload_n 1, 1) := by decide +kernel
theorem dX10_setArc_114 : decode cX10_setArc 114 = .ok (.iaload, 1) := by decide +kernel
theorem dX10_setArc_115 : decode cX10_setArc 115 = .ok (.iastore, 1) := by decide +kernel
theorem dX10_setArc_116 : decode cX10_setArc 116 = .ok (.aload_n 0, 1) := by decide +kernel
theorem dX10_setArc_117 : decode cX10_setArc 117 = .ok (.getfield 19, 3) := by decide +kernel
theorem dX10_setArc_120 : decode cX10_setArc 120 = .ok (.iload_n 1, 1) := by decide +kernel
theorem dX10_setArc_121 : decode cX10_setArc 121 = .ok (.iload_n 2, 1) := by decide +kernel
theorem dX10_setArc_122 : decode cX10_setArc 122 = .ok (.iconst 1, 1) := by decide +kernel
theorem dX10_setArc_123 : decode cX10_setArc 123 = .ok (.if_icmp .ne 7, 3) := by decide +kernel
theorem dX10_setArc_126 : decode cX10_setArc 126 = .ok (.iload_n 3, 1) := by decide +kernel
theorem dX10_setArc_127 : decode cX10_setArc 127 = .ok (.goto 9, 3) := by decide +kernel
theorem dX10_setArc_130 : decode cX10_setArc 130 = .ok (.aload_n 0, 1) := by decide +kernel
theorem dX10_setArc_131 : decode cX10_setArc 131 = .ok (.getfield 19, 3) := by decide +kernel
theorem dX10_setArc_134 : decode cX10_setArc 134 = .ok (.iload_n 1, 1) := by decide +kernel
theorem dX10_setArc_135 : decode cX10_setArc 135 = .ok (.iaload, 1) := by decide +kernel
theorem dX10_setArc_136 : decode cX10_setArc 136 = .ok (.iastore, 1) := by decide +kernel
theorem dX10_setArc_137 : decode cX10_setArc 137 = .ok (.aload_n 0, 1) := by decide +kernel
theorem dX10_setArc_138 : decode cX10_setArc 138 = .ok (.getfield 22, 3) := by decide +kernel
theorem dX10_setArc_141 : decode cX10_setArc 141 = .ok (.iload_n 1, 1) := by decide +kernel
theorem dX10_setArc_142 : decode cX10_setArc 142 = .ok (.iload_n 2, 1) := by decide +kernel
theorem dX10_setArc_143 : decode cX10_setArc 143 = .ok (.iconst 2, 1) := by decide +kernel
theorem dX10_setArc_144 : decode cX10_setArc 144 = .ok (.if_icmp .ne 7, 3) := by decide +kernel
theorem dX10_setArc_147 : decode cX10_setArc 147 = .ok (.iload_n 3, 1) := by decide +kernel
theorem dX10_setArc_148 : decode cX10_setArc 148 = .ok (.goto 9, 3) := by decide +kernel
theorem dX10_setArc_151 : decode cX10_setArc 151 = .ok (.aload_n 0, 1) := by decide +kernel
theorem dX10_setArc_152 : decode cX10_setArc 152 = .ok (.getfield 22, 3) := by decide +kernel
theorem dX10_setArc_155 : decode cX10_setArc 155 = .ok (.iload_n 1, 1) := by decide +kernel
theorem dX10_setArc_156 : decode cX10_setArc 156 = .ok (.iaload, 1) := by decide +kernel
theorem dX10_setArc_157 : decode cX10_setArc 157 = .ok (.iastore, 1) := by decide +kernel
theorem dX10_setArc_158 : decode cX10_setArc 158 = .ok (.aload_n 0, 1) := by decide +kernel
theorem dX10_setArc_159 : decode cX10_setArc 159 = .ok (.iconst 0, 1) := by decide +kernel
theorem dX10_setArc_160 : decode cX10_setArc 160 = .ok (.putfield 128, 3) := by decide +kernel
theorem dX10_setArc_163 : decode cX10_setArc 163 = .ok (.iload 4, 2) := by decide +kernel
theorem dX10_setArc_165 : decode cX10_setArc 165 = .ok (.ireturn, 1) := by decide +kernel
theorem dX10_setSupply_0 : decode cX10_setSupply 0 = .ok (.aload_n 0, 1) := by decide +kernel
theorem dX10_setSupply_1 : decode cX10_setSupply 1 = .ok (.iload_n 1, 1) := by decide +kernel
theorem dX10_setSupply_2 : decode cX10_setSupply 2 = .ok (.invokevirtual 136, 3) := by decide +kernel
theorem dX10_setSupply_5 : decode cX10_setSupply 5 = .ok (.ifCond .eq 7, 3) := by decide +kernel
theorem dX10_setSupply_8 : decode cX10_setSupply 8 = .ok (.sipush (-10001), 3) := by decide +kernel
theorem dX10_setSupply_11 : decode cX10_setSupply 11 = .ok (.ireturn, 1) := by decide +kernel
theorem dX10_setSupply_12 : decode cX10_setSupply 12 = .ok (.iload_n 2, 1) := by decide +kernel
theorem dX10_setSupply_13 : decode cX10_setSupply 13 = .ok (.sipush (-500), 3) := by decide +kernel
theorem dX10_setSupply_16 : decode cX10_setSupply 16 = .ok (.sipush 500, 3) := by decide +kernel
theorem dX10_setSupply_19 : decode cX10_setSupply 19 = .ok (.invokestatic 132, 3) := by decide +kernel
theorem dX10_setSupply_22 : decode cX10_setSupply 22 = .ok (.ifCond .eq 10, 3) := by decide +kernel
theorem dX10_setSupply_25 : decode cX10_setSupply 25 = .ok (.iload_n 3, 1) := by decide +kernel
theorem dX10_setSupply_26 : decode cX10_setSupply 26 = .ok (.invokestatic 146, 3) := by decide +kernel
theorem dX10_setSupply_29 : decode cX10_setSupply 29 = .ok (.ifCond .ne 7, 3) := by decide +kernel
theorem dX10_setSupply_32 : decode cX10_setSupply 32 = .ok (.sipush (-10002), 3) := by decide +kernel
theorem dX10_setSupply_35 : decode cX10_setSupply 35 = .ok (.ireturn, 1) := by decide +kernel
theorem dX10_setSupply_36 : decode cX10_setSupply 36 = .ok (.aload_n 0, 1) := by decide +kernel
theorem dX10_setSupply_37 : decode cX10_setSupply 37 = .ok (.getfield 25, 3) := by decide +kernel
theorem dX10_setSupply_40 : decode cX10_setSupply 40 = .ok (.iload_n 1, 1) := by decide +kernel
theorem dX10_setSupply_41 : decode cX10_setSupply 41 = .ok (.iaload, 1) := by decide +kernel
theorem dX10_setSupply_42 : decode cX10_setSupply 42 = .ok (.iload_n 2, 1) := by decide +kernel
theorem dX10_setSupply_43 : decode cX10_setSupply 43 = .ok (.if_icmp .ne 13, 3) := by decide +kernel
theorem dX10_setSupply_46 : decode cX10_setSupply 46 = .ok (.aload_n 0, 1) := by decide +kernel
theorem dX10_setSupply_47 : decode cX10_setSupply 47 = .ok (.getfield 28, 3) := by decide +kernel
theorem dX10_setSupply_50 : decode cX10_setSupply 50 = .ok (.iload_n 1, 1) := by decide +kernel
theorem dX10_setSupply_51 : decode cX10_setSupply 51 = .ok (.iaload, 1) := by decide +kernel
theorem dX10_setSupply_52 : decode cX10_setSupply 52 = .ok (.iload_n 3, 1) := by decide +kernel
theorem dX10_setSupply_53 : decode cX10_setSupply 53 = .ok (.if_icmp .eq 7, 3) := by decide +kernel
theorem dX10_setSupply_56 : decode cX10_setSupply 56 = .ok (.iconst 1, 1) := by decide +kernel
theorem dX10_setSupply_57 : decode cX10_setSupply 57 = .ok (.goto 4, 3) := by decide +kernel
theorem dX10_setSupply_60 : decode cX10_setSupply 60 = .ok (.iconst 0, 1) := by decide +kernel
theorem dX10_setSupply_61 : decode cX10_setSupply 61 = .ok (.istore 4, 2) := by decide +kernel
theorem dX10_setSupply_63 : decode cX10_setSupply 63 = .ok (.aload_n 0, 1) := by decide +kernel
theorem dX10_setSupply_64 : decode cX10_setSupply 64 = .ok (.getfield 25, 3) := by decide +kernel
theorem dX10_setSupply_67 : decode cX10_setSupply 67 = .ok (.iload_n 1, 1) := by decide +kernel
theorem dX10_setSupply_68 : decode cX10_setSupply 68 = .ok (.iload_n 2, 1) := by decide +kernel
theorem dX10_setSupply_69 : decode cX10_setSupply 69 = .ok (.iastore, 1) := by decide +kernel
theorem dX10_setSupply_70 : decode cX10_setSupply 70 = .ok (.aload_n 0, 1) := by decide +kernel
theorem dX10_setSupply_71 : decode cX10_setSupply 71 = .ok (.getfield 28, 3) := by decide +kernel
theorem dX10_setSupply_74 : decode cX10_setSupply 74 = .ok (.iload_n 1, 1) := by decide +kernel
theorem dX10_setSupply_75 : decode cX10_setSupply 75 = .ok (.iload_n 3, 1) := by decide +kernel
theorem dX10_setSupply_76 : decode cX10_setSupply 76 = .ok (.iastore, 1) := by decide +kernel
theorem dX10_setSupply_77 : decode cX10_setSupply 77 = .ok (.aload_n 0, 1) := by decide +kernel
theorem dX10_setSupply_78 : decode cX10_setSupply 78 = .ok (.iconst 0, 1) := by decide +kernel
theorem dX10_setSupply_79 : decode cX10_setSupply 79 = .ok (.putfield 128, 3) := by decide +kernel
theorem dX10_setSupply_82 : decode cX10_setSupply 82 = .ok (.iload 4, 2) := by decide +kernel
theorem dX10_setSupply_84 : decode cX10_setSupply 84 = .ok (.ireturn, 1) := by decide +kernel
theorem dX10_setMode_0 : decode cX10_setMode 0 = .ok (.iload_n 1, 1) := by decide +kernel
theorem dX10_setMode_1 : decode cX10_setMode 1 = .ok (.iconst 0, 1) := by decide +kernel
theorem dX10_setMode_2 : decode cX10_setMode 2 = .ok (.iconst 1, 1) := by decide +kernel
theorem dX10_setMode_3 : decode cX10_setMode 3 = .ok (.invokestatic 132, 3) := by decide +kernel
theorem dX10_setMode_6 : decode cX10_setMode 6 = .ok (.ifCond .ne 7, 3) := by decide +kernel
theorem dX10_setMode_9 : decode cX10_setMode 9 = .ok (.sipush (-10002), 3) := by decide +kernel
theorem dX10_setMode_12 : decode cX10_setMode 12 = .ok (.ireturn, 1) := by decide +kernel
theorem dX10_setMode_13 : decode cX10_setMode 13 = .ok (.aload_n 0, 1) := by decide +kernel
theorem dX10_setMode_14 : decode cX10_setMode 14 = .ok (.getfield 125, 3) := by decide +kernel
theorem dX10_setMode_17 : decode cX10_setMode 17 = .ok (.istore_n 2, 1) := by decide +kernel
theorem dX10_setMode_18 : decode cX10_setMode 18 = .ok (.aload_n 0, 1) := by decide +kernel
theorem dX10_setMode_19 : decode cX10_setMode 19 = .ok (.iload_n 1, 1) := by decide +kernel
theorem dX10_setMode_20 : decode cX10_setMode 20 = .ok (.putfield 125, 3) := by decide +kernel
theorem dX10_setMode_23 : decode cX10_setMode 23 = .ok (.aload_n 0, 1) := by decide +kernel
theorem dX10_setMode_24 : decode cX10_setMode 24 = .ok (.iconst 0, 1) := by decide +kernel
theorem dX10_setMode_25 : decode cX10_setMode 25 = .ok (.putfield 128, 3) := by decide +kernel
theorem dX10_setMode_28 : decode cX10_setMode 28 = .ok (.iload_n 2, 1) := by decide +kernel
theorem dX10_setMode_29 : decode cX10_setMode 29 = .ok (.ireturn, 1) := by decide +kernel
theorem dX10_arc_0 : decode cX10_arc 0 = .ok (.aload_n 0, 1) := by decide +kernel
theorem dX10_arc_1 : decode cX10_arc 1 = .ok (.iload_n 1, 1) := by decide +kernel
theorem dX10_arc_2 : decode cX10_arc 2 = .ok (.invokevirtual 149, 3) := by decide +kernel
theorem dX10_arc_5 : decode cX10_arc 5 = .ok (.ifCond .eq 7, 3) := by decide +kernel
theorem dX10_arc_8 : decode cX10_arc 8 = .ok (.sipush (-10001), 3) := by decide +kernel
theorem dX10_arc_11 : decode cX10_arc 11 = .ok (.ireturn, 1) := by decide +kernel
theorem dX10_arc_12 : decode cX10_arc 12 = .ok (.iload_n 2, 1) := by decide +kernel
theorem dX10_arc_13 : decode cX10_arc 13 = .ok (.tableswitch 70 0 4 #[35, 42, 49, 56, 63], 35) := by decide +kernel
theorem dX10_arc_48 : decode cX10_arc 48 = .ok (.aload_n 0, 1) := by decide +kernel
theorem dX10_arc_49 : decode cX10_arc 49 = .ok (.getfield 7, 3) := by decide +kernel
theorem dX10_arc_52 : decode cX10_arc 52 = .ok (.iload_n 1, 1) := by decide +kernel
theorem dX10_arc_53 : decode cX10_arc 53 = .ok (.iaload, 1) := by decide +kernel
theorem dX10_arc_54 : decode cX10_arc 54 = .ok (.ireturn, 1) := by decide +kernel
theorem dX10_arc_55 : decode cX10_arc 55 = .ok (.aload_n 0, 1) := by decide +kernel
theorem dX10_arc_56 : decode cX10_arc 56 = .ok (.getfield 13, 3) := by decide +kernel
theorem dX10_arc_59 : decode cX10_arc 59 = .ok (.iload_n 1, 1) := by decide +kernel
theorem dX10_arc_60 : decode cX10_arc 60 = .ok (.iaload, 1) := by decide +kernel
theorem dX10_arc_61 : decode cX10_arc 61 = .ok (.ireturn, 1) := by decide +kernel
theorem dX10_arc_62 : decode cX10_arc 62 = .ok (.aload_n 0, 1) := by decide +kernel
theorem dX10_arc_63 : decode cX10_arc 63 = .ok (.getfield 16, 3) := by decide +kernel
theorem dX10_arc_66 : decode cX10_arc 66 = .ok (.iload_n 1, 1) := by decide +kernel
theorem dX10_arc_67 : decode cX10_arc 67 = .ok (.iaload, 1) := by decide +kernel
theorem dX10_arc_68 : decode cX10_arc 68 = .ok (.ireturn, 1) := by decide +kernel
theorem dX10_arc_69 : decode cX10_arc 69 = .ok (.aload_n 0, 1) := by decide +kernel
theorem dX10_arc_70 : decode cX10_arc 70 = .ok (.getfield 19, 3) := by decide +kernel
theorem dX10_arc_73 : decode cX10_arc 73 = .ok (.iload_n 1, 1) := by decide +kernel
theorem dX10_arc_74 : decode cX10_arc 74 = .ok (.iaload, 1) := by decide +kernel
theorem dX10_arc_75 : decode cX10_arc 75 = .ok (.ireturn, 1) := by decide +kernel
theorem dX10_arc_76 : decode cX10_arc 76 = .ok (.aload_n 0, 1) := by decide +kernel
theorem dX10_arc_77 : decode cX10_arc 77 = .ok (.getfield 22, 3) := by decide +kernel
theorem dX10_arc_80 : decode cX10_arc 80 = .ok (.iload_n 1, 1) := by decide +kernel
theorem dX10_arc_81 : decode cX10_arc 81 = .ok (.iaload, 1) := by decide +kernel
theorem dX10_arc_82 : decode cX10_arc 82 = .ok (.ireturn, 1) := by decide +kernel
theorem dX10_arc_83 : decode cX10_arc 83 = .ok (.sipush (-10002), 3) := by decide +kernel
theorem dX10_arc_86 : decode cX10_arc 86 = .ok (.ireturn, 1) := by decide +kernel
theorem dX10_sumOf_0 : decode cX10_sumOf 0 = .ok (.iconst 0, 1) := by decide +kernel
theorem dX10_sumOf_1 : decode cX10_sumOf 1 = .ok (.istore_n 2, 1) := by decide +kernel
theorem dX10_sumOf_2 : decode cX10_sumOf 2 = .ok (.iconst 0, 1) := by decide +kernel
theorem dX10_sumOf_3 : decode cX10_sumOf 3 = .ok (.istore_n 3, 1) := by decide +kernel
theorem dX10_sumOf_4 : decode cX10_sumOf 4 = .ok (.iload_n 3, 1) := by decide +kernel
theorem dX10_sumOf_5 : decode cX10_sumOf 5 = .ok (.aload_n 0, 1) := by decide +kernel
theorem dX10_sumOf_6 : decode cX10_sumOf 6 = .ok (.getfield 118, 3) := by decide +kernel
theorem dX10_sumOf_9 : decode cX10_sumOf 9 = .ok (.if_icmp .ge 31, 3) := by decide +kernel
theorem dX10_sumOf_12 : decode cX10_sumOf 12 = .ok (.iload_n 2, 1) := by decide +kernel
theorem dX10_sumOf_13 : decode cX10_sumOf 13 = .ok (.iload_n 1, 1) := by decide +kernel
theorem dX10_sumOf_14 : decode cX10_sumOf 14 = .ok (.ifCond .eq 12, 3) := by decide +kernel
theorem dX10_sumOf_17 : decode cX10_sumOf 17 = .ok (.aload_n 0, 1) := by decide +kernel
theorem dX10_sumOf_18 : decode cX10_sumOf 18 = .ok (.getfield 28, 3) := by decide +kernel
theorem dX10_sumOf_21 : decode cX10_sumOf 21 = .ok (.iload_n 3, 1) := by decide +kernel
theorem dX10_sumOf_22 : decode cX10_sumOf 22 = .ok (.iaload, 1) := by decide +kernel
theorem dX10_sumOf_23 : decode cX10_sumOf 23 = .ok (.goto 9, 3) := by decide +kernel
theorem dX10_sumOf_26 : decode cX10_sumOf 26 = .ok (.aload_n 0, 1) := by decide +kernel
theorem dX10_sumOf_27 : decode cX10_sumOf 27 = .ok (.getfield 25, 3) := by decide +kernel
theorem dX10_sumOf_30 : decode cX10_sumOf 30 = .ok (.iload_n 3, 1) := by decide +kernel
theorem dX10_sumOf_31 : decode cX10_sumOf 31 = .ok (.iaload, 1) := by decide +kernel
theorem dX10_sumOf_32 : decode cX10_sumOf 32 = .ok (.iadd, 1) := by decide +kernel
theorem dX10_sumOf_33 : decode cX10_sumOf 33 = .ok (.istore_n 2, 1) := by decide +kernel
theorem dX10_sumOf_34 : decode cX10_sumOf 34 = .ok (.iinc 3 1, 3) := by decide +kernel
theorem dX10_sumOf_37 : decode cX10_sumOf 37 = .ok (.goto (-33), 3) := by decide +kernel
theorem dX10_sumOf_40 : decode cX10_sumOf 40 = .ok (.iload_n 2, 1) := by decide +kernel
theorem dX10_sumOf_41 : decode cX10_sumOf 41 = .ok (.ireturn, 1) := by decide +kernel
theorem dX10_network_0 : decode cX10_network 0 = .ok (.iload_n 1, 1) := by decide +kernel
theorem dX10_network_1 : decode cX10_network 1 = .ok (.tableswitch 79 0 5 #[39, 44, 49, 54, 60, 66], 39) := by decide +kernel
theorem dX10_network_40 : decode cX10_network 40 = .ok (.aload_n 0, 1) := by decide +kernel
theorem dX10_network_41 : decode cX10_network 41 = .ok (.getfield 118, 3) := by decide +kernel
theorem dX10_network_44 : decode cX10_network 44 = .ok (.ireturn, 1) := by decide +kernel
theorem dX10_network_45 : decode cX10_network 45 = .ok (.aload_n 0, 1) := by decide +kernel
theorem dX10_network_46 : decode cX10_network 46 = .ok (.getfield 122, 3) := by decide +kernel
theorem dX10_network_49 : decode cX10_network 49 = .ok (.ireturn, 1) := by decide +kernel
theorem dX10_network_50 : decode cX10_network 50 = .ok (.aload_n 0, 1) := by decide +kernel
theorem dX10_network_51 : decode cX10_network 51 = .ok (.getfield 125, 3) := by decide +kernel
theorem dX10_network_54 : decode cX10_network 54 = .ok (.ireturn, 1) := by decide +kernel
theorem dX10_network_55 : decode cX10_network 55 = .ok (.aload_n 0, 1) := by decide +kernel
theorem dX10_network_56 : decode cX10_network 56 = .ok (.iconst 0, 1) := by decide +kernel
theorem dX10_network_57 : decode cX10_network 57 = .ok (.invokevirtual 152, 3) := by decide +kernel
theorem dX10_network_60 : decode cX10_network 60 = .ok (.ireturn, 1) := by decide +kernel
theorem dX10_network_61 : decode cX10_network 61 = .ok (.aload_n 0, 1) := by decide +kernel
theorem dX10_network_62 : decode cX10_network 62 = .ok (.iconst 1, 1) := by decide +kernel
theorem dX10_network_63 : decode cX10_network 63 = .ok (.invokevirtual 152, 3) := by decide +kernel
theorem dX10_network_66 : decode cX10_network 66 = .ok (.ireturn, 1) := by decide +kernel
theorem dX10_network_67 : decode cX10_network 67 = .ok (.aload_n 0, 1) := by decide +kernel
theorem dX10_network_68 : decode cX10_network 68 = .ok (.getfield 128, 3) := by decide +kernel
theorem dX10_network_71 : decode cX10_network 71 = .ok (.ifCond .eq 7, 3) := by decide +kernel
theorem dX10_network_74 : decode cX10_network 74 = .ok (.iconst 1, 1) := by decide +kernel
theorem dX10_network_75 : decode cX10_network 75 = .ok (.goto 4, 3) := by decide +kernel
theorem dX10_network_78 : decode cX10_network 78 = .ok (.iconst 0, 1) := by decide +kernel
theorem dX10_network_79 : decode cX10_network 79 = .ok (.ireturn, 1) := by decide +kernel
theorem dX10_network_80 : decode cX10_network 80 = .ok (.sipush (-10002), 3) := by decide +kernel
theorem dX10_network_83 : decode cX10_network 83 = .ok (.ireturn, 1) := by decide +kernel
theorem dX10_isBalanced_0 : decode cX10_isBalanced 0 = .ok (.lconst 0, 1) := by decide +kernel
theorem dX10_isBalanced_1 : decode cX10_isBalanced 1 = .ok (.lstore 5, 2) := by decide +kernel
theorem dX10_isBalanced_3 : decode cX10_isBalanced 3 = .ok (.iconst 0, 1) := by decide +kernel
theorem dX10_isBalanced_4 : decode cX10_isBalanced 4 = .ok (.istore 7, 2) := by decide +kernel
theorem dX10_isBalanced_6 : decode cX10_isBalanced 6 = .ok (.iload 7, 2) := by decide +kernel
theorem dX10_isBalanced_8 : decode cX10_isBalanced 8 = .ok (.aload_n 0, 1) := by decide +kernel
theorem dX10_isBalanced_9 : decode cX10_isBalanced 9 = .ok (.getfield 118, 3) := by decide +kernel
theorem dX10_isBalanced_12 : decode cX10_isBalanced 12 = .ok (.if_icmp .ge 54, 3) := by decide +kernel
theorem dX10_isBalanced_15 : decode cX10_isBalanced 15 = .ok (.lload 5, 2) := by decide +kernel
theorem dX10_isBalanced_17 : decode cX10_isBalanced 17 = .ok (.aload_n 0, 1) := by decide +kernel
theorem dX10_isBalanced_18 : decode cX10_isBalanced 18 = .ok (.getfield 125, 3) := by decide +kernel
theorem dX10_isBalanced_21 : decode cX10_isBalanced 21 = .ok (.iconst 1, 1) := by decide +kernel
theorem dX10_isBalanced_22 : decode cX10_isBalanced 22 = .ok (.if_icmp .ne 27, 3) := by decide +kernel
theorem dX10_isBalanced_25 : decode cX10_isBalanced 25 = .ok (.lload_n 3, 1) := by decide +kernel
theorem dX10_isBalanced_26 : decode cX10_isBalanced 26 = .ok (.aload_n 0, 1) := by decide +kernel
theorem dX10_isBalanced_27 : decode cX10_isBalanced 27 = .ok (.getfield 25, 3) := by decide +kernel
theorem dX10_isBalanced_30 : decode cX10_isBalanced 30 = .ok (.iload 7, 2) := by decide +kernel
theorem dX10_isBalanced_32 : decode cX10_isBalanced 32 = .ok (.iaload, 1) := by decide +kernel
theorem dX10_isBalanced_33 : decode cX10_isBalanced 33 = .ok (.i2l, 1) := by decide +kernel
theorem dX10_isBalanced_34 : decode cX10_isBalanced 34 = .ok (.lmul, 1) := by decide +kernel
theorem dX10_isBalanced_35 : decode cX10_isBalanced 35 = .ok (.lload_n 1, 1) := by decide +kernel
theorem dX10_isBalanced_36 : decode cX10_isBalanced 36 = .ok (.aload_n 0, 1) := by decide +kernel
theorem dX10_isBalanced_37 : decode cX10_isBalanced 37 = .ok (.getfield 28, 3) := by decide +kernel
theorem dX10_isBalanced_40 : decode cX10_isBalanced 40 = .ok (.iload 7, 2) := by decide +kernel
theorem dX10_isBalanced_42 : decode cX10_isBalanced 42 = .ok (.iaload, 1) := by decide +kernel
theorem dX10_isBalanced_43 : decode cX10_isBalanced 43 = .ok (.i2l, 1) := by decide +kernel
theorem dX10_isBalanced_44 : decode cX10_isBalanced 44 = .ok (.lmul, 1) := by decide +kernel
theorem dX10_isBalanced_45 : decode cX10_isBalanced 45 = .ok (.ladd, 1) := by decide +kernel
theorem dX10_isBalanced_46 : decode cX10_isBalanced 46 = .ok (.goto 11, 3) := by decide +kernel
theorem dX10_isBalanced_49 : decode cX10_isBalanced 49 = .ok (.aload_n 0, 1) := by decide +kernel
theorem dX10_isBalanced_50 : decode cX10_isBalanced 50 = .ok (.getfield 25, 3) := by decide +kernel
theorem dX10_isBalanced_53 : decode cX10_isBalanced 53 = .ok (.iload 7, 2) := by decide +kernel
theorem dX10_isBalanced_55 : decode cX10_isBalanced 55 = .ok (.iaload, 1) := by decide +kernel
theorem dX10_isBalanced_56 : decode cX10_isBalanced 56 = .ok (.i2l, 1) := by decide +kernel
theorem dX10_isBalanced_57 : decode cX10_isBalanced 57 = .ok (.ladd, 1) := by decide +kernel
theorem dX10_isBalanced_58 : decode cX10_isBalanced 58 = .ok (.lstore 5, 2) := by decide +kernel
theorem dX10_isBalanced_60 : decode cX10_isBalanced 60 = .ok (.iinc 7 1, 3) := by decide +kernel
theorem dX10_isBalanced_63 : decode cX10_isBalanced 63 = .ok (.goto (-57), 3) := by decide +kernel
theorem dX10_isBalanced_66 : decode cX10_isBalanced 66 = .ok (.lload 5, 2) := by decide +kernel
theorem dX10_isBalanced_68 : decode cX10_isBalanced 68 = .ok (.lconst 0, 1) := by decide +kernel
theorem dX10_isBalanced_69 : decode cX10_isBalanced 69 = .ok (.lcmp, 1) := by decide +kernel
theorem dX10_isBalanced_70 : decode cX10_isBalanced 70 = .ok (.ifCond .ne 7, 3) := by decide +kernel
theorem dX10_isBalanced_73 : decode cX10_isBalanced 73 = .ok (.iconst 1, 1) := by decide +kernel
theorem dX10_isBalanced_74 : decode cX10_isBalanced 74 = .ok (.goto 4, 3) := by decide +kernel
theorem dX10_isBalanced_77 : decode cX10_isBalanced 77 = .ok (.iconst 0, 1) := by decide +kernel
theorem dX10_isBalanced_78 : decode cX10_isBalanced 78 = .ok (.ireturn, 1) := by decide +kernel
theorem dX10_lay_0 : decode cX10_lay 0 = .ok (.aload_n 0, 1) := by decide +kernel
theorem dX10_lay_1 : decode cX10_lay 1 = .ok (.lload_n 3, 1) := by decide +kernel
theorem dX10_lay_2 : decode cX10_lay 2 = .ok (.putfield 156, 3) := by decide +kernel
theorem dX10_lay_5 : decode cX10_lay 5 = .ok (.aload_n 0, 1) := by decide +kernel
theorem dX10_lay_6 : decode cX10_lay 6 = .ok (.iconst 0, 1) := by decide +kernel
theorem dX10_lay_7 : decode cX10_lay 7 = .ok (.putfield 160, 3) := by decide +kernel
theorem dX10_lay_10 : decode cX10_lay 10 = .ok (.lconst 0, 1) := by decide +kernel
theorem dX10_lay_11 : decode cX10_lay 11 = .ok (.lstore 5, 2) := by decide +kernel
theorem dX10_lay_13 : decode cX10_lay 13 = .ok (.iconst 0, 1) := by decide +kernel
theorem dX10_lay_14 : decode cX10_lay 14 = .ok (.istore 7, 2) := by decide +kernel
theorem dX10_lay_16 : decode cX10_lay 16 = .ok (.iload 7, 2) := by decide +kernel
theorem dX10_lay_18 : decode cX10_lay 18 = .ok (.aload_n 0, 1) := by decide +kernel
theorem dX10_lay_19 : decode cX10_lay 19 = .ok (.getfield 122, 3) := by decide +kernel
theorem dX10_lay_22 : decode cX10_lay 22 = .ok (.if_icmp .ge 168, 3) := by decide +kernel
theorem dX10_lay_25 : decode cX10_lay 25 = .ok (.aload_n 0, 1) := by decide +kernel
theorem dX10_lay_26 : decode cX10_lay 26 = .ok (.getfield 47, 3) := by decide +kernel
theorem dX10_lay_29 : decode cX10_lay 29 = .ok (.iload 7, 2) := by decide +kernel
theorem dX10_lay_31 : decode cX10_lay 31 = .ok (.aload_n 0, 1) := by decide +kernel
theorem dX10_lay_32 : decode cX10_lay 32 = .ok (.getfield 7, 3) := by decide +kernel
theorem dX10_lay_35 : decode cX10_lay 35 = .ok (.iload 7, 2) := by decide +kernel
theorem dX10_lay_37 : decode cX10_lay 37 = .ok (.iaload, 1) := by decide +kernel
theorem dX10_lay_38 : decode cX10_lay 38 = .ok (.iastore, 1) := by decide +kernel
theorem dX10_lay_39 : decode cX10_lay 39 = .ok (.aload_n 0, 1) := by decide +kernel
theorem dX10_lay_40 : decode cX10_lay 40 = .ok (.getfield 44, 3) := by decide +kernel
theorem dX10_lay_43 : decode cX10_lay 43 = .ok (.iload 7, 2) := by decide +kernel
theorem dX10_lay_45 : decode cX10_lay 45 = .ok (.aload_n 0, 1) := by decide +kernel
theorem dX10_lay_46 : decode cX10_lay 46 = .ok (.getfield 13, 3) := by decide +kernel
theorem dX10_lay_49 : decode cX10_lay 49 = .ok (.iload 7, 2) := by decide +kernel
theorem dX10_lay_51 : decode cX10_lay 51 = .ok (.iaload, 1) := by decide +kernel
theorem dX10_lay_52 : decode cX10_lay 52 = .ok (.iastore, 1) := by decide +kernel
theorem dX10_lay_53 : decode cX10_lay 53 = .ok (.aload_n 0, 1) := by decide +kernel
theorem dX10_lay_54 : decode cX10_lay 54 = .ok (.getfield 31, 3) := by decide +kernel
theorem dX10_lay_57 : decode cX10_lay 57 = .ok (.iload 7, 2) := by decide +kernel
theorem dX10_lay_59 : decode cX10_lay 59 = .ok (.aload_n 0, 1) := by decide +kernel
theorem dX10_lay_60 : decode cX10_lay 60 = .ok (.getfield 125, 3) := by decide +kernel
theorem dX10_lay_63 : decode cX10_lay 63 = .ok (.ifCond .ne 27, 3) := by decide +kernel
theorem dX10_lay_66 : decode cX10_lay 66 = .ok (.lload_n 3, 1) := by decide +kernel
theorem dX10_lay_67 : decode cX10_lay 67 = .ok (.aload_n 0, 1) := by decide +kernel
theorem dX10_lay_68 : decode cX10_lay 68 = .ok (.getfield 19, 3) := by decide +kernel
theorem dX10_lay_71 : decode cX10_lay 71 = .ok (.iload 7, 2) := by decide +kernel
theorem dX10_lay_73 : decode cX10_lay 73 = .ok (.iaload, 1) := by decide +kernel
theorem dX10_lay_74 : decode cX10_lay 74 = .ok (.i2l, 1) := by decide +kernel
theorem dX10_lay_75 : decode cX10_lay 75 = .ok (.lmul, 1) := by decide +kernel
theorem dX10_lay_76 : decode cX10_lay 76 = .ok (.lload_n 1, 1) := by decide +kernel
theorem dX10_lay_77 : decode cX10_lay 77 = .ok (.aload_n 0, 1) := by decide +kernel
theorem dX10_lay_78 : decode cX10_lay 78 = .ok (.getfield 22, 3) := by decide +kernel
theorem dX10_lay_81 : decode cX10_lay 81 = .ok (.iload 7, 2) := by decide +kernel
theorem dX10_lay_83 : decode cX10_lay 83 = .ok (.iaload, 1) := by decide +kernel
theorem dX10_lay_84 : decode cX10_lay 84 = .ok (.i2l, 1) := by decide +kernel
theorem dX10_lay_85 : decode cX10_lay 85 = .ok (.lmul, 1) := by decide +kernel
theorem dX10_lay_86 : decode cX10_lay 86 = .ok (.ladd, 1) := by decide +kernel
theorem dX10_lay_87 : decode cX10_lay 87 = .ok (.goto 11, 3) := by decide +kernel
theorem dX10_lay_90 : decode cX10_lay 90 = .ok (.aload_n 0, 1) := by decide +kernel
theorem dX10_lay_91 : decode cX10_lay 91 = .ok (.getfield 19, 3) := by decide +kernel
theorem dX10_lay_94 : decode cX10_lay 94 = .ok (.iload 7, 2) := by decide +kernel
theorem dX10_lay_96 : decode cX10_lay 96 = .ok (.iaload, 1) := by decide +kernel
theorem dX10_lay_97 : decode cX10_lay 97 = .ok (.i2l, 1) := by decide +kernel
theorem dX10_lay_98 : decode cX10_lay 98 = .ok (.lastore, 1) := by decide +kernel
theorem dX10_lay_99 : decode cX10_lay 99 = .ok (.aload_n 0, 1) := by decide +kernel
theorem dX10_lay_100 : decode cX10_lay 100 = .ok (.getfield 35, 3) := by decide +kernel
theorem dX10_lay_103 : decode cX10_lay 103 = .ok (.iload 7, 2) := by decide +kernel
theorem dX10_lay_105 : decode cX10_lay 105 = .ok (.aload_n 0, 1) := by decide +kernel
theorem dX10_lay_106 : decode cX10_lay 106 = .ok (.getfield 125, 3) := by decide +kernel
theorem dX10_lay_109 : decode cX10_lay 109 = .ok (.iconst 1, 1) := by decide +kernel
theorem dX10_lay_110 : decode cX10_lay 110 = .ok (.if_icmp .ne 16, 3) := by decide +kernel
theorem dX10_lay_113 : decode cX10_lay 113 = .ok (.lload_n 3, 1) := by decide +kernel
theorem dX10_lay_114 : decode cX10_lay 114 = .ok (.aload_n 0, 1) := by decide +kernel
theorem dX10_lay_115 : decode cX10_lay 115 = .ok (.getfield 16, 3) := by decide +kernel
theorem dX10_lay_118 : decode cX10_lay 118 = .ok (.iload 7, 2) := by decide +kernel
theorem dX10_lay_120 : decode cX10_lay 120 = .ok (.iaload, 1) := by decide +kernel
theorem dX10_lay_121 : decode cX10_lay 121 = .ok (.i2l, 1) := by decide +kernel
theorem dX10_lay_122 : decode cX10_lay 122 = .ok (.lmul, 1) := by decide +kernel
theorem dX10_lay_123 : decode cX10_lay 123 = .ok (.goto 11, 3) := by decide +kernel
theorem dX10_lay_126 : decode cX10_lay 126 = .ok (.aload_n 0, 1) := by decide +kernel
theorem dX10_lay_127 : decode cX10_lay 127 = .ok (.getfield 16, 3) := by decide +kernel
theorem dX10_lay_130 : decode cX10_lay 130 = .ok (.iload 7, 2) := by decide +kernel
theorem dX10_lay_132 : decode cX10_lay 132 = .ok (.iaload, 1) := by decide +kernel
theorem dX10_lay_133 : decode cX10_lay 133 = .ok (.i2l, 1) := by decide +kernel
theorem dX10_lay_134 : decode cX10_lay 134 = .ok (.lastore, 1) := by decide +kernel
theorem dX10_lay_135 : decode cX10_lay 135 = .ok (.aload_n 0, 1) := by decide +kernel
theorem dX10_lay_136 : decode cX10_lay 136 = .ok (.getfield 38, 3) := by decide +kernel
theorem dX10_lay_139 : decode cX10_lay 139 = .ok (.iload 7, 2) := by decide +kernel
theorem dX10_lay_141 : decode cX10_lay 141 = .ok (.lconst 0, 1) := by decide +kernel
theorem dX10_lay_142 : decode cX10_lay 142 = .ok (.lastore, 1) := by decide +kernel
theorem dX10_lay_143 : decode cX10_lay 143 = .ok (.aload_n 0, 1) := by decide +kernel
theorem dX10_lay_144 : decode cX10_lay 144 = .ok (.getfield 41, 3) := by decide +kernel
theorem dX10_lay_147 : decode cX10_lay 147 = .ok (.iload 7, 2) := by decide +kernel
theorem dX10_lay_149 : decode cX10_lay 149 = .ok (.iconst 0, 1) := by decide +kernel
theorem dX10_lay_150 : decode cX10_lay 150 = .ok (.iastore, 1) := by decide +kernel
theorem dX10_lay_151 : decode cX10_lay 151 = .ok (.aload_n 0, 1) := by decide +kernel
theorem dX10_lay_152 : decode cX10_lay 152 = .ok (.getfield 31, 3) := by decide +kernel
theorem dX10_lay_155 : decode cX10_lay 155 = .ok (.iload 7, 2) := by decide +kernel
theorem dX10_lay_157 : decode cX10_lay 157 = .ok (.laload, 1) := by decide +kernel
theorem dX10_lay_158 : decode cX10_lay 158 = .ok (.invokestatic 108, 3) := by decide +kernel
theorem dX10_lay_161 : decode cX10_lay 161 = .ok (.lload 5, 2) := by decide +kernel
theorem dX10_lay_163 : decode cX10_lay 163 = .ok (.lcmp, 1) := by decide +kernel
theorem dX10_lay_164 : decode cX10_lay 164 = .ok (.ifCond .le 16, 3) := by decide +kernel
theorem dX10_lay_167 : decode cX10_lay 167 = .ok (.aload_n 0, 1) := by decide +kernel
theorem dX10_lay_168 : decode cX10_lay 168 = .ok (.getfield 31, 3) := by decide +kernel
theorem dX10_lay_171 : decode cX10_lay 171 = .ok (.iload 7, 2) := by decide +kernel
theorem dX10_lay_173 : decode cX10_lay 173 = .ok (.laload, 1) := by decide +kernel
theorem dX10_lay_174 : decode cX10_lay 174 = .ok (.invokestatic 108, 3) := by decide +kernel
theorem dX10_lay_177 : decode cX10_lay 177 = .ok (.goto 5, 3) := by decide +kernel
theorem dX10_lay_180 : decode cX10_lay 180 = .ok (.lload 5, 2) := by decide +kernel
theorem dX10_lay_182 : decode cX10_lay 182 = .ok (.lstore 5, 2) := by decide +kernel
theorem dX10_lay_184 : decode cX10_lay 184 = .ok (.iinc 7 1, 3) := by decide +kernel
theorem dX10_lay_187 : decode cX10_lay 187 = .ok (.goto (-171), 3) := by decide +kernel
theorem dX10_lay_190 : decode cX10_lay 190 = .ok (.iconst 0, 1) := by decide +kernel
theorem dX10_lay_191 : decode cX10_lay 191 = .ok (.istore 7, 2) := by decide +kernel
theorem dX10_lay_193 : decode cX10_lay 193 = .ok (.iload 7, 2) := by decide +kernel
theorem dX10_lay_195 : decode cX10_lay 195 = .ok (.aload_n 0, 1) := by decide +kernel
theorem dX10_lay_196 : decode cX10_lay 196 = .ok (.getfield 118, 3) := by decide +kernel
theorem dX10_lay_199 : decode cX10_lay 199 = .ok (.if_icmp .ge 185, 3) := by decide +kernel
theorem dX10_lay_202 : decode cX10_lay 202 = .ok (.aload_n 0, 1) := by decide +kernel
theorem dX10_lay_203 : decode cX10_lay 203 = .ok (.getfield 50, 3) := by decide +kernel
theorem dX10_lay_206 : decode cX10_lay 206 = .ok (.iload 7, 2) := by decide +kernel
theorem dX10_lay_208 : decode cX10_lay 208 = .ok (.aload_n 0, 1) := by decide +kernel
theorem dX10_lay_209 : decode cX10_lay 209 = .ok (.getfield 125, 3) := by decide +kernel
theorem dX10_lay_212 : decode cX10_lay 212 = .ok (.iconst 1, 1) := by decide +kernel
theorem dX10_lay_213 : decode cX10_lay 213 = .ok (.if_icmp .ne 27, 3) := by decide +kernel
theorem dX10_lay_216 : decode cX10_lay 216 = .ok (.lload_n 3, 1) := by decide +kernel
theorem dX10_lay_217 : decode cX10_lay 217 = .ok (.aload_n 0, 1) := by decide +kernel
theorem dX10_lay_218 : decode cX10_lay 218 = .ok (.getfield 25, 3) := by decide +kernel
theorem dX10_lay_221 : decode cX10_lay 221 = .ok (.iload 7, 2) := by decide +kernel
theorem dX10_lay_223 : decode cX10_lay 223 = .ok (.iaload, 1) := by decide +kernel
theorem dX10_lay_224 : decode cX10_lay 224 = .ok (.i2l, 1) := by decide +kernel
theorem dX10_lay_225 : decode cX10_lay 225 = .ok (.lmul, 1) := by decide +kernel
theorem dX10_lay_226 : decode cX10_lay 226 = .ok (.lload_n 1, 1) := by decide +kernel
theorem dX10_lay_227 : decode cX10_lay 227 = .ok (.aload_n 0, 1) := by decide +kernel
theorem dX10_lay_228 : decode cX10_lay 228 = .ok (.getfield 28, 3) := by decide +kernel
theorem dX10_lay_231 : decode cX10_lay 231 = .ok (.iload 7, 2) := by decide +kernel
theorem dX10_lay_233 : decode cX10_lay 233 = .ok (.iaload, 1) := by decide +kernel
theorem dX10_lay_234 : decode cX10_lay 234 = .ok (.i2l, 1) := by decide +kernel
theorem dX10_lay_235 : decode cX10_lay 235 = .ok (.lmul, 1) := by decide +kernel
theorem dX10_lay_236 : decode cX10_lay 236 = .ok (.ladd, 1) := by decide +kernel
theorem dX10_lay_237 : decode cX10_lay 237 = .ok (.goto 11, 3) := by decide +kernel
theorem dX10_lay_240 : decode cX10_lay 240 = .ok (.aload_n 0, 1) := by decide +kernel
theorem dX10_lay_241 : decode cX10_lay 241 = .ok (.getfield 25, 3) := by decide +kernel
theorem dX10_lay_244 : decode cX10_lay 244 = .ok (.iload 7, 2) := by decide +kernel
theorem dX10_lay_246 : decode cX10_lay 246 = .ok (.iaload, 1) := by decide +kernel
theorem dX10_lay_247 : decode cX10_lay 247 = .ok (.i2l, 1) := by decide +kernel
theorem dX10_lay_248 : decode cX10_lay 248 = .ok (.lastore, 1) := by decide +kernel
theorem dX10_lay_249 : decode cX10_lay 249 = .ok (.bipush 20, 2) := by decide +kernel
theorem dX10_lay_251 : decode cX10_lay 251 = .ok (.iload 7, 2) := by decide +kernel
theorem dX10_lay_253 : decode cX10_lay 253 = .ok (.iadd, 1) := by decide +kernel
theorem dX10_lay_254 : decode cX10_lay 254 = .ok (.istore 8, 2) := by decide +kernel
theorem dX10_lay_256 : decode cX10_lay 256 = .ok (.aload_n 0, 1) := by decide +kernel
theorem dX10_lay_257 : decode cX10_lay 257 = .ok (.getfield 47, 3) := by decide +kernel
theorem dX10_lay_260 : decode cX10_lay 260 = .ok (.iload 8, 2) := by decide +kernel
theorem dX10_lay_262 : decode cX10_lay 262 = .ok (.aload_n 0, 1) := by decide +kernel
theorem dX10_lay_263 : decode cX10_lay 263 = .ok (.getfield 50, 3) := by decide +kernel
theorem dX10_lay_266 : decode cX10_lay 266 = .ok (.iload 7, 2) := by decide +kernel
theorem dX10_lay_268 : decode cX10_lay 268 = .ok (.laload, 1) := by decide +kernel
theorem dX10_lay_269 : decode cX10_lay 269 = .ok (.lconst 0, 1) := by decide +kernel
theorem dX10_lay_270 : decode cX10_lay 270 = .ok (.lcmp, 1) := by decide +kernel
theorem dX10_lay_271 : decode cX10_lay 271 = .ok (.ifCond .lt 8, 3) := by decide +kernel
theorem dX10_lay_274 : decode cX10_lay 274 = .ok (.iload 7, 2) := by decide +kernel
theorem dX10_lay_276 : decode cX10_lay 276 = .ok (.goto 5, 3) := by decide +kernel
theorem dX10_lay_279 : decode cX10_lay 279 = .ok (.bipush 8, 2) := by decide +kernel
theorem dX10_lay_281 : decode cX10_lay 281 = .ok (.iastore, 1) := by decide +kernel
theorem dX10_lay_282 : decode cX10_lay 282 = .ok (.aload_n 0, 1) := by decide +kernel
theorem dX10_lay_283 : decode cX10_lay 283 = .ok (.getfield 44, 3) := by decide +kernel
theorem dX10_lay_286 : decode cX10_lay 286 = .ok (.iload 8, 2) := by decide +kernel
theorem dX10_lay_288 : decode cX10_lay 288 = .ok (.aload_n 0, 1) := by decide +kernel
theorem dX10_lay_289 : decode cX10_lay 289 = .ok (.getfield 50, 3) := by decide +kernel
theorem dX10_lay_292 : decode cX10_lay 292 = .ok (.iload 7, 2) := by decide +kernel
theorem dX10_lay_294 : decode cX10_lay 294 = .ok (.laload, 1) := by decide +kernel
theorem dX10_lay_295 : decode cX10_lay 295 = .ok (.lconst 0, 1) := by decide +kernel
theorem dX10_lay_296 : decode cX10_lay 296 = .ok (.lcmp, 1) := by decide +kernel
theorem dX10_lay_297 : decode cX10_lay 297 = .ok (.ifCond .lt 8, 3) := by decide +kernel
theorem dX10_lay_300 : decode cX10_lay 300 = .ok (.bipush 8, 2) := by decide +kernel
theorem dX10_lay_302 : decode cX10_lay 302 = .ok (.goto 5, 3) := by decide +kernel
theorem dX10_lay_305 : decode cX10_lay 305 = .ok (.iload 7, 2) := by decide +kernel
theorem dX10_lay_307 : decode cX10_lay 307 = .ok (.iastore, 1) := by decide +kernel
theorem dX10_lay_308 : decode cX10_lay 308 = .ok (.aload_n 0, 1) := by decide +kernel
theorem dX10_lay_309 : decode cX10_lay 309 = .ok (.getfield 31, 3) := by decide +kernel
theorem dX10_lay_312 : decode cX10_lay 312 = .ok (.iload 8, 2) := by decide +kernel
theorem dX10_lay_314 : decode cX10_lay 314 = .ok (.lconst 1, 1) := by decide +kernel
theorem dX10_lay_315 : decode cX10_lay 315 = .ok (.aload_n 0, 1) := by decide +kernel
theorem dX10_lay_316 : decode cX10_lay 316 = .ok (.getfield 118, 3) := by decide +kernel
theorem dX10_lay_319 : decode cX10_lay 319 = .ok (.i2l, 1) := by decide +kernel
theorem dX10_lay_320 : decode cX10_lay 320 = .ok (.lload 5, 2) := by decide +kernel
theorem dX10_lay_322 : decode cX10_lay 322 = .ok (.lmul, 1) := by decide +kernel
theorem dX10_lay_323 : decode cX10_lay 323 = .ok (.ladd, 1) := by decide +kernel
theorem dX10_lay_324 : decode cX10_lay 324 = .ok (.lastore, 1) := by decide +kernel
theorem dX10_lay_325 : decode cX10_lay 325 = .ok (.aload_n 0, 1) := by decide +kernel
theorem dX10_lay_326 : decode cX10_lay 326 = .ok (.getfield 35, 3) := by decide +kernel
theorem dX10_lay_329 : decode cX10_lay 329 = .ok (.iload 8, 2) := by decide +kernel
theorem dX10_lay_331 : decode cX10_lay 331 = .ok (.ldc2_w 163, 3) := by decide +kernel
theorem dX10_lay_334 : decode cX10_lay 334 = .ok (.lastore, 1) := by decide +kernel
theorem dX10_lay_335 : decode cX10_lay 335 = .ok (.aload_n 0, 1) := by decide +kernel
theorem dX10_lay_336 : decode cX10_lay 336 = .ok (.getfield 38, 3) := by decide +kernel
theorem dX10_lay_339 : decode cX10_lay 339 = .ok (.iload 8, 2) := by decide +kernel
theorem dX10_lay_341 : decode cX10_lay 341 = .ok (.aload_n 0, 1) := by decide +kernel
theorem dX10_lay_342 : decode cX10_lay 342 = .ok (.getfield 50, 3) := by decide +kernel
theorem dX10_lay_345 : decode cX10_lay 345 = .ok (.iload 7, 2) := by decide +kernel
theorem dX10_lay_347 : decode cX10_lay 347 = .ok (.laload, 1) := by decide +kernel
theorem dX10_lay_348 : decode cX10_lay 348 = .ok (.invokestatic 108, 3) := by decide +kernel
theorem dX10_lay_351 : decode cX10_lay 351 = .ok (.lastore, 1) := by decide +kernel
theorem dX10_lay_352 : decode cX10_lay 352 = .ok (.aload_n 0, 1) := by decide +kernel
theorem dX10_lay_353 : decode cX10_lay 353 = .ok (.getfield 41, 3) := by decide +kernel
theorem dX10_lay_356 : decode cX10_lay 356 = .ok (.iload 8, 2) := by decide +kernel
theorem dX10_lay_358 : decode cX10_lay 358 = .ok (.iconst 2, 1) := by decide +kernel
theorem dX10_lay_359 : decode cX10_lay 359 = .ok (.iastore, 1) := by decide +kernel
theorem dX10_lay_360 : decode cX10_lay 360 = .ok (.aload_n 0, 1) := by decide +kernel
theorem dX10_lay_361 : decode cX10_lay 361 = .ok (.getfield 53, 3) := by decide +kernel
theorem dX10_lay_364 : decode cX10_lay 364 = .ok (.iload 7, 2) := by decide +kernel
theorem dX10_lay_366 : decode cX10_lay 366 = .ok (.bipush 8, 2) := by decide +kernel
theorem dX10_lay_368 : decode cX10_lay 368 = .ok (.iastore, 1) := by decide +kernel
theorem dX10_lay_369 : decode cX10_lay 369 = .ok (.aload_n 0, 1) := by decide +kernel
theorem dX10_lay_370 : decode cX10_lay 370 = .ok (.getfield 56, 3) := by decide +kernel
theorem dX10_lay_373 : decode cX10_lay 373 = .ok (.iload 7, 2) := by decide +kernel
theorem dX10_lay_375 : decode cX10_lay 375 = .ok (.iload 8, 2) := by decide +kernel
theorem dX10_lay_377 : decode cX10_lay 377 = .ok (.iastore, 1) := by decide +kernel
theorem dX10_lay_378 : decode cX10_lay 378 = .ok (.iinc 7 1, 3) := by decide +kernel
theorem dX10_lay_381 : decode cX10_lay 381 = .ok (.goto (-188), 3) := by decide +kernel
theorem dX10_lay_384 : decode cX10_lay 384 = .ok (.aload_n 0, 1) := by decide +kernel
theorem dX10_lay_385 : decode cX10_lay 385 = .ok (.invokevirtual 165, 3) := by decide +kernel
theorem dX10_lay_388 : decode cX10_lay 388 = .ok (.return_, 1) := by decide +kernel
theorem dX10_layDepths_0 : decode cX10_layDepths 0 = .ok (.aload_n 0, 1) := by decide +kernel
theorem dX10_layDepths_1 : decode cX10_layDepths 1 = .ok (.getfield 59, 3) := by decide +kernel
theorem dX10_layDepths_4 : decode cX10_layDepths 4 = .ok (.bipush 8, 2) := by decide +kernel
theorem dX10_layDepths_6 : decode cX10_layDepths 6 = .ok (.iconst 0, 1) := by decide +kernel
theorem dX10_layDepths_7 : decode cX10_layDepths 7 = .ok (.iastore, 1) := by decide +kernel
theorem dX10_layDepths_8 : decode cX10_layDepths 8 = .ok (.aload_n 0, 1) := by decide +kernel
theorem dX10_layDepths_9 : decode cX10_layDepths 9 = .ok (.getfield 62, 3) := by decide +kernel
theorem dX10_layDepths_12 : decode cX10_layDepths 12 = .ok (.bipush 8, 2) := by decide +kernel
theorem dX10_layDepths_14 : decode cX10_layDepths 14 = .ok (.lconst 0, 1) := by decide +kernel
theorem dX10_layDepths_15 : decode cX10_layDepths 15 = .ok (.lastore, 1) := by decide +kernel
theorem dX10_layDepths_16 : decode cX10_layDepths 16 = .ok (.iconst 0, 1) := by decide +kernel
theorem dX10_layDepths_17 : decode cX10_layDepths 17 = .ok (.istore_n 1, 1) := by decide +kernel
theorem dX10_layDepths_18 : decode cX10_layDepths 18 = .ok (.iload_n 1, 1) := by decide +kernel
theorem dX10_layDepths_19 : decode cX10_layDepths 19 = .ok (.aload_n 0, 1) := by decide +kernel
theorem dX10_layDepths_20 : decode cX10_layDepths 20 = .ok (.getfield 118, 3) := by decide +kernel
theorem dX10_layDepths_23 : decode cX10_layDepths 23 = .ok (.if_icmp .ge 16, 3) := by decide +kernel
theorem dX10_layDepths_26 : decode cX10_layDepths 26 = .ok (.aload_n 0, 1) := by decide +kernel
theorem dX10_layDepths_27 : decode cX10_layDepths 27 = .ok (.getfield 59, 3) := by decide +kernel
theorem dX10_layDepths_30 : decode cX10_layDepths 30 = .ok (.iload_n 1, 1) := by decide +kernel
theorem dX10_layDepths_31 : decode cX10_layDepths 31 = .ok (.iconst (-1), 1) := by decide +kernel
theorem dX10_layDepths_32 : decode cX10_layDepths 32 = .ok (.iastore, 1) := by decide +kernel
theorem dX10_layDepths_33 : decode cX10_layDepths 33 = .ok (.iinc 1 1, 3) := by decide +kernel
theorem dX10_layDepths_36 : decode cX10_layDepths 36 = .ok (.goto (-18), 3) := by decide +kernel
theorem dX10_layDepths_39 : decode cX10_layDepths 39 = .ok (.iconst 0, 1) := by decide +kernel
theorem dX10_layDepths_40 : decode cX10_layDepths 40 = .ok (.istore_n 1, 1) := by decide +kernel
theorem dX10_layDepths_41 : decode cX10_layDepths 41 = .ok (.iload_n 1, 1) := by decide +kernel
theorem dX10_layDepths_42 : decode cX10_layDepths 42 = .ok (.aload_n 0, 1) := by decide +kernel
theorem dX10_layDepths_43 : decode cX10_layDepths 43 = .ok (.getfield 118, 3) := by decide +kernel
theorem dX10_layDepths_46 : decode cX10_layDepths 46 = .ok (.if_icmp .ge 119, 3) := by decide +kernel
theorem dX10_layDepths_49 : decode cX10_layDepths 49 = .ok (.iconst 0, 1) := by decide +kernel
theorem dX10_layDepths_50 : decode cX10_layDepths 50 = .ok (.istore_n 2, 1) := by decide +kernel
theorem dX10_layDepths_51 : decode cX10_layDepths 51 = .ok (.iload_n 2, 1) := by decide +kernel
theorem dX10_layDepths_52 : decode cX10_layDepths 52 = .ok (.aload_n 0, 1) := by decide +kernel
theorem dX10_layDepths_53 : decode cX10_layDepths 53 = .ok (.getfield 118, 3) := by decide +kernel
theorem dX10_layDepths_56 : decode cX10_layDepths 56 = .ok (.if_icmp .ge 103, 3) := by decide +kernel
theorem dX10_layDepths_59 : decode cX10_layDepths 59 = .ok (.aload_n 0, 1) := by decide +kernel
theorem dX10_layDepths_60 : decode cX10_layDepths 60 = .ok (.getfield 53, 3) := by decide +kernel
theorem dX10_layDepths_63 : decode cX10_layDepths 63 = .ok (.iload_n 2, 1) := by decide +kernel
theorem dX10_layDepths_64 : decode cX10_layDepths 64 = .ok (.iaload, 1) := by decide +kernel
theorem dX10_layDepths_65 : decode cX10_layDepths 65 = .ok (.istore_n 3, 1) := by decide +kernel
theorem dX10_layDepths_66 : decode cX10_layDepths 66 = .ok (.aload_n 0, 1) := by decide +kernel
theorem dX10_layDepths_67 : decode cX10_layDepths 67 = .ok (.getfield 59, 3) := by decide +kernel
theorem dX10_layDepths_70 : decode cX10_layDepths 70 = .ok (.iload_n 2, 1) := by decide +kernel
theorem dX10_layDepths_71 : decode cX10_layDepths 71 = .ok (.iaload, 1) := by decide +kernel
theorem dX10_layDepths_72 : decode cX10_layDepths 72 = .ok (.ifCond .ge 81, 3) := by decide +kernel
theorem dX10_layDepths_75 : decode cX10_layDepths 75 = .ok (.aload_n 0, 1) := by decide +kernel
theorem dX10_layDepths_76 : decode cX10_layDepths 76 = .ok (.getfield 59, 3) := by decide +kernel
theorem dX10_layDepths_79 : decode cX10_layDepths 79 = .ok (.iload_n 3, 1) := by decide +kernel
theorem dX10_layDepths_80 : decode cX10_layDepths 80 = .ok (.iaload, 1) := by decide +kernel
theorem dX10_layDepths_81 : decode cX10_layDepths 81 = .ok (.ifCond .lt 72, 3) := by decide +kernel
theorem dX10_layDepths_84 : decode cX10_layDepths 84 = .ok (.aload_n 0, 1) := by decide +kernel
theorem dX10_layDepths_85 : decode cX10_layDepths 85 = .ok (.getfield 59, 3) := by decide +kernel
theorem dX10_layDepths_88 : decode cX10_layDepths 88 = .ok (.iload_n 2, 1) := by decide +kernel
theorem dX10_layDepths_89 : decode cX10_layDepths 89 = .ok (.aload_n 0, 1) := by decide +kernel
theorem dX10_layDepths_90 : decode cX10_layDepths 90 = .ok (.getfield 59, 3) := by decide +kernel
theorem dX10_layDepths_93 : decode cX10_layDepths 93 = .ok (.iload_n 3, 1) := by decide +kernel
theorem dX10_layDepths_94 : decode cX10_layDepths 94 = .ok (.iaload, 1) := by decide +kernel
theorem dX10_layDepths_95 : decode cX10_layDepths 95 = .ok (.iconst 1, 1) := by decide +kernel
theorem dX10_layDepths_96 : decode cX10_layDepths 96 = .ok (.iadd, 1) := by decide +kernel
theorem dX10_layDepths_97 : decode cX10_layDepths 97 = .ok (.iastore, 1) := by decide +kernel
theorem dX10_layDepths_98 : decode cX10_layDepths 98 = .ok (.aload_n 0, 1) := by decide +kernel
theorem dX10_layDepths_99 : decode cX10_layDepths 99 = .ok (.getfield 31, 3) := by decide +kernel
theorem dX10_layDepths_102 : decode cX10_layDepths 102 = .ok (.aload_n 0, 1) := by decide +kernel
theorem dX10_layDepths_103 : decode cX10_layDepths 103 = .ok (.getfield 56, 3) := by decide +kernel
theorem dX10_layDepths_106 : decode cX10_layDepths 106 = .ok (.iload_n 2, 1) := by decide +kernel
theorem dX10_layDepths_107 : decode cX10_layDepths 107 = .ok (.iaload, 1) := by decide +kernel
theorem dX10_layDepths_108 : decode cX10_layDepths 108 = .ok (.laload, 1) := by decide +kernel
theorem dX10_layDepths_109 : decode cX10_layDepths 109 = .ok (.lstore 4, 2) := by decide +kernel
theorem dX10_layDepths_111 : decode cX10_layDepths 111 = .ok (.aload_n 0, 1) := by decide +kernel
theorem dX10_layDepths_112 : decode cX10_layDepths 112 = .ok (.getfield 62, 3) := by decide +kernel
theorem dX10_layDepths_115 : decode cX10_layDepths 115 = .ok (.iload_n 2, 1) := by decide +kernel
theorem dX10_layDepths_116 : decode cX10_layDepths 116 = .ok (.aload_n 0, 1) := by decide +kernel
theorem dX10_layDepths_117 : decode cX10_layDepths 117 = .ok (.getfield 47, 3) := by decide +kernel
theorem dX10_layDepths_120 : decode cX10_layDepths 120 = .ok (.aload_n 0, 1) := by decide +kernel
theorem dX10_layDepths_121 : decode cX10_layDepths 121 = .ok (.getfield 56, 3) := by decide +kernel
theorem dX10_layDepths_124 : decode cX10_layDepths 124 = .ok (.iload_n 2, 1) := by decide +kernel
theorem dX10_layDepths_125 : decode cX10_layDepths 125 = .ok (.iaload, 1) := by decide +kernel
theorem dX10_layDepths_126 : decode cX10_layDepths 126 = .ok (.iaload, 1) := by decide +kernel
theorem dX10_layDepths_127 : decode cX10_layDepths 127 = .ok (.iload_n 2, 1) := by decide +kernel
theorem dX10_layDepths_128 : decode cX10_layDepths 128 = .ok (.if_icmp .ne 15, 3) := by decide +kernel
theorem dX10_layDepths_131 : decode cX10_layDepths 131 = .ok (.aload_n 0, 1) := by decide +kernel
theorem dX10_layDepths_132 : decode cX10_layDepths 132 = .ok (.getfield 62, 3) := by decide +kernel
theorem dX10_layDepths_135 : decode cX10_layDepths 135 = .ok (.iload_n 3, 1) := by decide +kernel
theorem dX10_layDepths_136 : decode cX10_layDepths 136 = .ok (.laload, 1) := by decide +kernel
theorem dX10_layDepths_137 : decode cX10_layDepths 137 = .ok (.lload 4, 2) := by decide +kernel
theorem dX10_layDepths_139 : decode cX10_layDepths 139 = .ok (.ladd, 1) := by decide +kernel
theorem dX10_layDepths_140 : decode cX10_layDepths 140 = .ok (.goto 12, 3) := by decide +kernel
theorem dX10_layDepths_143 : decode cX10_layDepths 143 = .ok (.aload_n 0, 1) := by decide +kernel
theorem dX10_layDepths_144 : decode cX10_layDepths 144 = .ok (.getfield 62, 3) := by decide +kernel
theorem dX10_layDepths_147 : decode cX10_layDepths 147 = .ok (.iload_n 3, 1) := by decide +kernel
theorem dX10_layDepths_148 : decode cX10_layDepths 148 = .ok (.laload, 1) := by decide +kernel
theorem dX10_layDepths_149 : decode cX10_layDepths 149 = .ok (.lload 4, 2) := by decide +kernel
theorem dX10_layDepths_151 : decode cX10_layDepths 151 = .ok (.lsub, 1) := by decide +kernel
theorem dX10_layDepths_152 : decode cX10_layDepths 152 = .ok (.lastore, 1) := by decide +kernel
theorem dX10_layDepths_153 : decode cX10_layDepths 153 = .ok (.iinc 2 1, 3) := by decide +kernel
theorem dX10_layDepths_156 : decode cX10_layDepths 156 = .ok (.goto (-105), 3) := by decide +kernel
theorem dX10_layDepths_159 : decode cX10_layDepths 159 = .ok (.iinc 1 1, 3) := by decide +kernel
theorem dX10_layDepths_162 : decode cX10_layDepths 162 = .ok (.goto (-121), 3) := by decide +kernel
theorem dX10_layDepths_165 : decode cX10_layDepths 165 = .ok (.return_, 1) := by decide +kernel
theorem dX10_entering_0 : decode cX10_entering 0 = .ok (.iconst (-1), 1) := by decide +kernel
theorem dX10_entering_1 : decode cX10_entering 1 = .ok (.istore_n 1, 1) := by decide +kernel
theorem dX10_entering_2 : decode cX10_entering 2 = .ok (.iconst 0, 1) := by decide +kernel
theorem dX10_entering_3 : decode cX10_entering 3 = .ok (.istore_n 2, 1) := by decide +kernel
theorem dX10_entering_4 : decode cX10_entering 4 = .ok (.iload_n 2, 1) := by decide +kernel
theorem dX10_entering_5 : decode cX10_entering 5 = .ok (.aload_n 0, 1) := by decide +kernel
theorem dX10_entering_6 : decode cX10_entering 6 = .ok (.getfield 122, 3) := by decide +kernel
theorem dX10_entering_9 : decode cX10_entering 9 = .ok (.if_icmp .ge 84, 3) := by decide +kernel
theorem dX10_entering_12 : decode cX10_entering 12 = .ok (.aload_n 0, 1) := by decide +kernel
theorem dX10_entering_13 : decode cX10_entering 13 = .ok (.iload_n 2, 1) := by decide +kernel
theorem dX10_entering_14 : decode cX10_entering 14 = .ok (.invokevirtual 168, 3) := by decide +kernel
theorem dX10_entering_17 : decode cX10_entering 17 = .ok (.lstore_n 3, 1) := by decide +kernel
theorem dX10_entering_18 : decode cX10_entering 18 = .ok (.aload_n 0, 1) := by decide +kernel
theorem dX10_entering_19 : decode cX10_entering 19 = .ok (.getfield 41, 3) := by decide +kernel
theorem dX10_entering_22 : decode cX10_entering 22 = .ok (.iload_n 2, 1) := by decide +kernel
theorem dX10_entering_23 : decode cX10_entering 23 = .ok (.iaload, 1) := by decide +kernel
theorem dX10_entering_24 : decode cX10_entering 24 = .ok (.ifCond .ne 9, 3) := by decide +kernel
theorem dX10_entering_27 : decode cX10_entering 27 = .ok (.lload_n 3, 1) := by decide +kernel
theorem dX10_entering_28 : decode cX10_entering 28 = .ok (.lconst 0, 1) := by decide +kernel
theorem dX10_entering_29 : decode cX10_entering 29 = .ok (.lcmp, 1) := by decide +kernel
theorem dX10_entering_30 : decode cX10_entering 30 = .ok (.ifCond .lt 19, 3) := by decide +kernel
theorem dX10_entering_33 : decode cX10_entering 33 = .ok (.aload_n 0, 1) := by decide +kernel
theorem dX10_entering_34 : decode cX10_entering 34 = .ok (.getfield 41, 3) := by decide +kernel
theorem dX10_entering_37 : decode cX10_entering 37 = .ok (.iload_n 2, 1) := by decide +kernel
theorem dX10_entering_38 : decode cX10_entering 38 = .ok (.iaload, 1) := by decide +kernel
theorem dX10_entering_39 : decode cX10_entering 39 = .ok (.iconst 1, 1) := by decide +kernel
theorem dX10_entering_40 : decode cX10_entering 40 = .ok (.if_icmp .ne 13, 3) := by decide +kernel
theorem dX10_entering_43 : decode cX10_entering 43 = .ok (.lload_n 3, 1) := by decide +kernel
theorem dX10_entering_44 : decode cX10_entering 44 = .ok (.lconst 0, 1) := by decide +kernel
theorem dX10_entering_45 : decode cX10_entering 45 = .ok (.lcmp, 1) := by decide +kernel
theorem dX10_entering_46 : decode cX10_entering 46 = .ok (.ifCond .le 7, 3) := by decide +kernel
theorem dX10_entering_49 : decode cX10_entering 49 = .ok (.iconst 1, 1) := by decide +kernel
theorem dX10_entering_50 : decode cX10_entering 50 = .ok (.goto 4, 3) := by decide +kernel
theorem dX10_entering_53 : decode cX10_entering 53 = .ok (.iconst 0, 1) := by decide +kernel
theorem dX10_entering_54 : decode cX10_entering 54 = .ok (.istore 5, 2) := by decide +kernel
theorem dX10_entering_56 : decode cX10_entering 56 = .ok (.iload 5, 2) := by decide +kernel
theorem dX10_entering_58 : decode cX10_entering 58 = .ok (.ifCond .eq 27, 3) := by decide +kernel
theorem dX10_entering_61 : decode cX10_entering 61 = .ok (.iload_n 1, 1) := by decide +kernel
theorem dX10_entering_62 : decode cX10_entering 62 = .ok (.ifCond .lt 19, 3) := by decide +kernel
theorem dX10_entering_65 : decode cX10_entering 65 = .ok (.lload_n 3, 1) := by decide +kernel
theorem dX10_entering_66 : decode cX10_entering 66 = .ok (.invokestatic 108, 3) := by decide +kernel
theorem dX10_entering_69 : decode cX10_entering 69 = .ok (.aload_n 0, 1) := by decide +kernel
theorem dX10_entering_70 : decode cX10_entering 70 = .ok (.iload_n 1, 1) := by decide +kernel
theorem dX10_entering_71 : decode cX10_entering 71 = .ok (.invokevirtual 168, 3) := by decide +kernel
theorem dX10_entering_74 : decode cX10_entering 74 = .ok (.invokestatic 108, 3) := by decide +kernel
theorem dX10_entering_77 : decode cX10_entering 77 = .ok (.lcmp, 1) := by decide +kernel
theorem dX10_entering_78 : decode cX10_entering 78 = .ok (.ifCond .le 7, 3) := by decide +kernel
theorem dX10_entering_81 : decode cX10_entering 81 = .ok (.iload_n 2, 1) := by decide +kernel
theorem dX10_entering_82 : decode cX10_entering 82 = .ok (.goto 4, 3) := by decide +kernel
theorem dX10_entering_85 : decode cX10_entering 85 = .ok (.iload_n 1, 1) := by decide +kernel
theorem dX10_entering_86 : decode cX10_entering 86 = .ok (.istore_n 1, 1) := by decide +kernel
theorem dX10_entering_87 : decode cX10_entering 87 = .ok (.iinc 2 1, 3) := by decide +kernel
theorem dX10_entering_90 : decode cX10_entering 90 = .ok (.goto (-86), 3) := by decide +kernel
theorem dX10_entering_93 : decode cX10_entering 93 = .ok (.iload_n 1, 1) := by decide +kernel
theorem dX10_entering_94 : decode cX10_entering 94 = .ok (.ireturn, 1) := by decide +kernel
theorem dX10_tryAt_0 : decode cX10_tryAt 0 = .ok (.aload_n 0, 1) := by decide +kernel
theorem dX10_tryAt_1 : decode cX10_tryAt 1 = .ok (.lload_n 1, 1) := by decide +kernel
theorem dX10_tryAt_2 : decode cX10_tryAt 2 = .ok (.lload_n 3, 1) := by decide +kernel
theorem dX10_tryAt_3 : decode cX10_tryAt 3 = .ok (.invokevirtual 193, 3) := by decide +kernel
theorem dX10_tryAt_6 : decode cX10_tryAt 6 = .ok (.ifCond .ne 7, 3) := by decide +kernel
theorem dX10_tryAt_9 : decode cX10_tryAt 9 = .ok (.sipush (-10003), 3) := by decide +kernel
theorem dX10_tryAt_12 : decode cX10_tryAt 12 = .ok (.ireturn, 1) := by decide +kernel
theorem dX10_tryAt_13 : decode cX10_tryAt 13 = .ok (.aload_n 0, 1) := by decide +kernel
theorem dX10_tryAt_14 : decode cX10_tryAt 14 = .ok (.lload_n 1, 1) := by decide +kernel
theorem dX10_tryAt_15 : decode cX10_tryAt 15 = .ok (.lload_n 3, 1) := by decide +kernel
theorem dX10_tryAt_16 : decode cX10_tryAt 16 = .ok (.invokevirtual 197, 3) := by decide +kernel
theorem dX10_tryAt_19 : decode cX10_tryAt 19 = .ok (.aload_n 0, 1) := by decide +kernel
theorem dX10_tryAt_20 : decode cX10_tryAt 20 = .ok (.invokevirtual 201, 3) := by decide +kernel
theorem dX10_tryAt_23 : decode cX10_tryAt 23 = .ok (.istore 5, 2) := by decide +kernel
theorem dX10_tryAt_25 : decode cX10_tryAt 25 = .ok (.iload 5, 2) := by decide +kernel
theorem dX10_tryAt_27 : decode cX10_tryAt 27 = .ok (.ifCond .lt 18, 3) := by decide +kernel
theorem dX10_tryAt_30 : decode cX10_tryAt 30 = .ok (.aload_n 0, 1) := by decide +kernel
theorem dX10_tryAt_31 : decode cX10_tryAt 31 = .ok (.iload 5, 2) := by decide +kernel
theorem dX10_tryAt_33 : decode cX10_tryAt 33 = .ok (.invokevirtual 205, 3) := by decide +kernel
theorem dX10_tryAt_36 : decode cX10_tryAt 36 = .ok (.aload_n 0, 1) := by decide +kernel
theorem dX10_tryAt_37 : decode cX10_tryAt 37 = .ok (.invokevirtual 201, 3) := by decide +kernel
theorem dX10_tryAt_40 : decode cX10_tryAt 40 = .ok (.istore 5, 2) := by decide +kernel
theorem dX10_tryAt_42 : decode cX10_tryAt 42 = .ok (.goto (-17), 3) := by decide +kernel
theorem dX10_tryAt_45 : decode cX10_tryAt 45 = .ok (.iconst 0, 1) := by decide +kernel
theorem dX10_tryAt_46 : decode cX10_tryAt 46 = .ok (.istore 5, 2) := by decide +kernel
theorem dX10_tryAt_48 : decode cX10_tryAt 48 = .ok (.iload 5, 2) := by decide +kernel
theorem dX10_tryAt_50 : decode cX10_tryAt 50 = .ok (.aload_n 0, 1) := by decide +kernel
theorem dX10_tryAt_51 : decode cX10_tryAt 51 = .ok (.getfield 118, 3) := by decide +kernel
theorem dX10_tryAt_54 : decode cX10_tryAt 54 = .ok (.if_icmp .ge 28, 3) := by decide +kernel
theorem dX10_tryAt_57 : decode cX10_tryAt 57 = .ok (.aload_n 0, 1) := by decide +kernel
theorem dX10_tryAt_58 : decode cX10_tryAt 58 = .ok (.getfield 38, 3) := by decide +kernel
theorem dX10_tryAt_61 : decode cX10_tryAt 61 = .ok (.bipush 20, 2) := by decide +kernel
theorem dX10_tryAt_63 : decode cX10_tryAt 63 = .ok (.iload 5, 2) := by decide +kernel
theorem dX10_tryAt_65 : decode cX10_tryAt 65 = .ok (.iadd, 1) := by decide +kernel
theorem dX10_tryAt_66 : decode cX10_tryAt 66 = .ok (.laload, 1) := by decide +kernel
theorem dX10_tryAt_67 : decode cX10_tryAt 67 = .ok (.lconst 0, 1) := by decide +kernel
theorem dX10_tryAt_68 : decode cX10_tryAt 68 = .ok (.lcmp, 1) := by decide +kernel
theorem dX10_tryAt_69 : decode cX10_tryAt 69 = .ok (.ifCond .le 7, 3) := by decide +kernel
theorem dX10_tryAt_72 : decode cX10_tryAt 72 = .ok (.sipush (-10004), 3) := by decide +kernel
theorem dX10_tryAt_75 : decode cX10_tryAt 75 = .ok (.ireturn, 1) := by decide +kernel
theorem dX10_tryAt_76 : decode cX10_tryAt 76 = .ok (.iinc 5 1, 3) := by decide +kernel
theorem dX10_tryAt_79 : decode cX10_tryAt 79 = .ok (.goto (-31), 3) := by decide +kernel
theorem dX10_tryAt_82 : decode cX10_tryAt 82 = .ok (.iconst 0, 1) := by decide +kernel
theorem dX10_tryAt_83 : decode cX10_tryAt 83 = .ok (.ireturn, 1) := by decide +kernel
theorem dX10_valueNow_0 : decode cX10_valueNow 0 = .ok (.lconst 0, 1) := by decide +kernel
theorem dX10_valueNow_1 : decode cX10_valueNow 1 = .ok (.lstore_n 1, 1) := by decide +kernel
theorem dX10_valueNow_2 : decode cX10_valueNow 2 = .ok (.iconst 0, 1) := by decide +kernel
theorem dX10_valueNow_3 : decode cX10_valueNow 3 = .ok (.istore_n 3, 1) := by decide +kernel
theorem dX10_valueNow_4 : decode cX10_valueNow 4 = .ok (.iload_n 3, 1) := by decide +kernel
theorem dX10_valueNow_5 : decode cX10_valueNow 5 = .ok (.aload_n 0, 1) := by decide +kernel
theorem dX10_valueNow_6 : decode cX10_valueNow 6 = .ok (.getfield 122, 3) := by decide +kernel
theorem dX10_valueNow_9 : decode cX10_valueNow 9 = .ok (.if_icmp .ge 25, 3) := by decide +kernel
theorem dX10_valueNow_12 : decode cX10_valueNow 12 = .ok (.lload_n 1, 1) := by decide +kernel
theorem dX10_valueNow_13 : decode cX10_valueNow 13 = .ok (.aload_n 0, 1) := by decide +kernel
theorem dX10_valueNow_14 : decode cX10_valueNow 14 = .ok (.getfield 38, 3) := by decide +kernel
theorem dX10_valueNow_17 : decode cX10_valueNow 17 = .ok (.iload_n 3, 1) := by decide +kernel
theorem dX10_valueNow_18 : decode cX10_valueNow 18 = .ok (.laload, 1) := by decide +kernel
theorem dX10_valueNow_19 : decode cX10_valueNow 19 = .ok (.aload_n 0, 1) := by decide +kernel
theorem dX10_valueNow_20 : decode cX10_valueNow 20 = .ok (.getfield 31, 3) := by decide +kernel
theorem dX10_valueNow_23 : decode cX10_valueNow 23 = .ok (.iload_n 3, 1) := by decide +kernel
theorem dX10_valueNow_24 : decode cX10_valueNow 24 = .ok (.laload, 1) := by decide +kernel
theorem dX10_valueNow_25 : decode cX10_valueNow 25 = .ok (.lmul, 1) := by decide +kernel
theorem dX10_valueNow_26 : decode cX10_valueNow 26 = .ok (.ladd, 1) := by decide +kernel
theorem dX10_valueNow_27 : decode cX10_valueNow 27 = .ok (.lstore_n 1, 1) := by decide +kernel
theorem dX10_valueNow_28 : decode cX10_valueNow 28 = .ok (.iinc 3 1, 3) := by decide +kernel
theorem dX10_valueNow_31 : decode cX10_valueNow 31 = .ok (.goto (-27), 3) := by decide +kernel
theorem dX10_valueNow_34 : decode cX10_valueNow 34 = .ok (.lload_n 1, 1) := by decide +kernel
theorem dX10_valueNow_35 : decode cX10_valueNow 35 = .ok (.lreturn, 1) := by decide +kernel
theorem dX10_isParameter_0 : decode cX10_isParameter 0 = .ok (.iload_n 0, 1) := by decide +kernel
theorem dX10_isParameter_1 : decode cX10_isParameter 1 = .ok (.sipush (-10000), 3) := by decide +kernel
theorem dX10_isParameter_4 : decode cX10_isParameter 4 = .ok (.sipush 10000, 3) := by decide +kernel
theorem dX10_isParameter_7 : decode cX10_isParameter 7 = .ok (.invokestatic 132, 3) := by decide +kernel
theorem dX10_isParameter_10 : decode cX10_isParameter 10 = .ok (.ifCond .eq 18, 3) := by decide +kernel
theorem dX10_isParameter_13 : decode cX10_isParameter 13 = .ok (.iload_n 1, 1) := by decide +kernel
theorem dX10_isParameter_14 : decode cX10_isParameter 14 = .ok (.iconst 1, 1) := by decide +kernel
theorem dX10_isParameter_15 : decode cX10_isParameter 15 = .ok (.sipush 1000, 3) := by decide +kernel
theorem dX10_isParameter_18 : decode cX10_isParameter 18 = .ok (.invokestatic 132, 3) := by decide +kernel
theorem dX10_isParameter_21 : decode cX10_isParameter 21 = .ok (.ifCond .eq 7, 3) := by decide +kernel
theorem dX10_isParameter_24 : decode cX10_isParameter 24 = .ok (.iconst 1, 1) := by decide +kernel
theorem dX10_isParameter_25 : decode cX10_isParameter 25 = .ok (.goto 4, 3) := by decide +kernel
theorem dX10_isParameter_28 : decode cX10_isParameter 28 = .ok (.iconst 0, 1) := by decide +kernel
theorem dX10_isParameter_29 : decode cX10_isParameter 29 = .ok (.ireturn, 1) := by decide +kernel
theorem dX10_solve_0 : decode cX10_solve 0 = .ok (.iload_n 1, 1) := by decide +kernel
theorem dX10_solve_1 : decode cX10_solve 1 = .ok (.iload_n 2, 1) := by decide +kernel
theorem dX10_solve_2 : decode cX10_solve 2 = .ok (.invokestatic 218, 3) := by decide +kernel
theorem dX10_solve_5 : decode cX10_solve 5 = .ok (.ifCond .ne 7, 3) := by decide +kernel
theorem dX10_solve_8 : decode cX10_solve 8 = .ok (.sipush (-10002), 3) := by decide +kernel
theorem dX10_solve_11 : decode cX10_solve 11 = .ok (.ireturn, 1) := by decide +kernel
theorem dX10_solve_12 : decode cX10_solve 12 = .ok (.aload_n 0, 1) := by decide +kernel
theorem dX10_solve_13 : decode cX10_solve 13 = .ok (.iload_n 1, 1) := by decide +kernel
theorem dX10_solve_14 : decode cX10_solve 14 = .ok (.i2l, 1) := by decide +kernel
theorem dX10_solve_15 : decode cX10_solve 15 = .ok (.iload_n 2, 1) := by decide +kernel
theorem dX10_solve_16 : decode cX10_solve 16 = .ok (.i2l, 1) := by decide +kernel
theorem dX10_solve_17 : decode cX10_solve 17 = .ok (.invokevirtual 214, 3) := by decide +kernel
theorem dX10_solve_20 : decode cX10_solve 20 = .ok (.istore_n 3, 1) := by decide +kernel
theorem dX10_solve_21 : decode cX10_solve 21 = .ok (.iload_n 3, 1) := by decide +kernel
theorem dX10_solve_22 : decode cX10_solve 22 = .ok (.ifCond .ge 5, 3) := by decide +kernel
theorem dX10_solve_25 : decode cX10_solve 25 = .ok (.iload_n 3, 1) := by decide +kernel
theorem dX10_solve_26 : decode cX10_solve 26 = .ok (.ireturn, 1) := by decide +kernel
theorem dX10_solve_27 : decode cX10_solve 27 = .ok (.aload_n 0, 1) := by decide +kernel
theorem dX10_solve_28 : decode cX10_solve 28 = .ok (.iconst 1, 1) := by decide +kernel
theorem dX10_solve_29 : decode cX10_solve 29 = .ok (.putfield 128, 3) := by decide +kernel
theorem dX10_solve_32 : decode cX10_solve 32 = .ok (.aload_n 0, 1) := by decide +kernel
theorem dX10_solve_33 : decode cX10_solve 33 = .ok (.iload_n 1, 1) := by decide +kernel
theorem dX10_solve_34 : decode cX10_solve 34 = .ok (.putfield 208, 3) := by decide +kernel
theorem dX10_solve_37 : decode cX10_solve 37 = .ok (.aload_n 0, 1) := by decide +kernel
theorem dX10_solve_38 : decode cX10_solve 38 = .ok (.iload_n 2, 1) := by decide +kernel
theorem dX10_solve_39 : decode cX10_solve 39 = .ok (.putfield 211, 3) := by decide +kernel
theorem dX10_solve_42 : decode cX10_solve 42 = .ok (.aload_n 0, 1) := by decide +kernel
theorem dX10_solve_43 : decode cX10_solve 43 = .ok (.getfield 160, 3) := by decide +kernel
theorem dX10_solve_46 : decode cX10_solve 46 = .ok (.ireturn, 1) := by decide +kernel
theorem dX10_pivot_0 : decode cX10_pivot 0 = .ok (.aload_n 0, 1) := by decide +kernel
theorem dX10_pivot_1 : decode cX10_pivot 1 = .ok (.getfield 128, 3) := by decide +kernel
theorem dX10_pivot_4 : decode cX10_pivot 4 = .ok (.ifCond .ne 7, 3) := by decide +kernel
theorem dX10_pivot_7 : decode cX10_pivot 7 = .ok (.sipush (-10005), 3) := by decide +kernel
theorem dX10_pivot_10 : decode cX10_pivot 10 = .ok (.ireturn, 1) := by decide +kernel
theorem dX10_pivot_11 : decode cX10_pivot 11 = .ok (.iload_n 1, 1) := by decide +kernel
theorem dX10_pivot_12 : decode cX10_pivot 12 = .ok (.ifCond .ge 7, 3) := by decide +kernel
theorem dX10_pivot_15 : decode cX10_pivot 15 = .ok (.sipush (-10002), 3) := by decide +kernel
theorem dX10_pivot_18 : decode cX10_pivot 18 = .ok (.ireturn, 1) := by decide +kernel
theorem dX10_pivot_19 : decode cX10_pivot 19 = .ok (.aload_n 0, 1) := by decide +kernel
theorem dX10_pivot_20 : decode cX10_pivot 20 = .ok (.invokevirtual 221, 3) := by decide +kernel
theorem dX10_pivot_23 : decode cX10_pivot 23 = .ok (.iload_n 1, 1) := by decide +kernel
theorem dX10_pivot_24 : decode cX10_pivot 24 = .ok (.aload_n 0, 1) := by decide +kernel
theorem dX10_pivot_25 : decode cX10_pivot 25 = .ok (.getfield 160, 3) := by decide +kernel
theorem dX10_pivot_28 : decode cX10_pivot 28 = .ok (.if_icmp .ge 28, 3) := by decide +kernel
theorem dX10_pivot_31 : decode cX10_pivot 31 = .ok (.iload_n 2, 1) := by decide +kernel
theorem dX10_pivot_32 : decode cX10_pivot 32 = .ok (.ifCond .eq 12, 3) := by decide +kernel
theorem dX10_pivot_35 : decode cX10_pivot 35 = .ok (.aload_n 0, 1) := by decide +kernel
theorem dX10_pivot_36 : decode cX10_pivot 36 = .ok (.getfield 68, 3) := by decide +kernel
theorem dX10_pivot_39 : decode cX10_pivot 39 = .ok (.iload_n 1, 1) := by decide +kernel
theorem dX10_pivot_40 : decode cX10_pivot 40 = .ok (.iaload, 1) := by decide +kernel
theorem dX10_pivot_41 : decode cX10_pivot 41 = .ok (.goto 9, 3) := by decide +kernel
theorem dX10_pivot_44 : decode cX10_pivot 44 = .ok (.aload_n 0, 1) := by decide +kernel
theorem dX10_pivot_45 : decode cX10_pivot 45 = .ok (.getfield 65, 3) := by decide +kernel
theorem dX10_pivot_48 : decode cX10_pivot 48 = .ok (.iload_n 1, 1) := by decide +kernel
theorem dX10_pivot_49 : decode cX10_pivot 49 = .ok (.iaload, 1) := by decide +kernel
theorem dX10_pivot_50 : decode cX10_pivot 50 = .ok (.invokestatic 224, 3) := by decide +kernel
theorem dX10_pivot_53 : decode cX10_pivot 53 = .ok (.goto 6, 3) := by decide +kernel
theorem dX10_pivot_56 : decode cX10_pivot 56 = .ok (.sipush (-10007), 3) := by decide +kernel
theorem dX10_pivot_59 : decode cX10_pivot 59 = .ok (.ireturn, 1) := by decide +kernel
theorem dX10_objective_0 : decode cX10_objective 0 = .ok (.aload_n 0, 1) := by decide +kernel
theorem dX10_objective_1 : decode cX10_objective 1 = .ok (.getfield 128, 3) := by decide +kernel
theorem dX10_objective_4 : decode cX10_objective 4 = .ok (.ifCond .ne 7, 3) := by decide +kernel
theorem dX10_objective_7 : decode cX10_objective 7 = .ok (.invokestatic 228, 3) := by decide +kernel
theorem dX10_objective_10 : decode cX10_objective 10 = .ok (.lreturn, 1) := by decide +kernel
theorem dX10_objective_11 : decode cX10_objective 11 = .ok (.aload_n 0, 1) := by decide +kernel
theorem dX10_objective_12 : decode cX10_objective 12 = .ok (.invokevirtual 221, 3) := by decide +kernel
theorem dX10_objective_15 : decode cX10_objective 15 = .ok (.aload_n 0, 1) := by decide +kernel
theorem dX10_objective_16 : decode cX10_objective 16 = .ok (.invokevirtual 232, 3) := by decide +kernel
theorem dX10_objective_19 : decode cX10_objective 19 = .ok (.aload_n 0, 1) := by decide +kernel
theorem dX10_objective_20 : decode cX10_objective 20 = .ok (.getfield 156, 3) := by decide +kernel
theorem dX10_objective_23 : decode cX10_objective 23 = .ok (.iload_n 1, 1) := by decide +kernel
theorem dX10_objective_24 : decode cX10_objective 24 = .ok (.invokestatic 235, 3) := by decide +kernel
theorem dX10_objective_27 : decode cX10_objective 27 = .ok (.lreturn, 1) := by decide +kernel
theorem dX10_flow_0 : decode cX10_flow 0 = .ok (.aload_n 0, 1) := by decide +kernel
theorem dX10_flow_1 : decode cX10_flow 1 = .ok (.getfield 128, 3) := by decide +kernel
theorem dX10_flow_4 : decode cX10_flow 4 = .ok (.ifCond .eq 11, 3) := by decide +kernel
theorem dX10_flow_7 : decode cX10_flow 7 = .ok (.aload_n 0, 1) := by decide +kernel
theorem dX10_flow_8 : decode cX10_flow 8 = .ok (.iload_n 1, 1) := by decide +kernel
theorem dX10_flow_9 : decode cX10_flow 9 = .ok (.invokevirtual 149, 3) := by decide +kernel
theorem dX10_flow_12 : decode cX10_flow 12 = .ok (.ifCond .eq 7, 3) := by decide +kernel
theorem dX10_flow_15 : decode cX10_flow 15 = .ok (.invokestatic 228, 3) := by decide +kernel
theorem dX10_flow_18 : decode cX10_flow 18 = .ok (.lreturn, 1) := by decide +kernel
theorem dX10_flow_19 : decode cX10_flow 19 = .ok (.aload_n 0, 1) := by decide +kernel
theorem dX10_flow_20 : decode cX10_flow 20 = .ok (.invokevirtual 221, 3) := by decide +kernel
theorem dX10_flow_23 : decode cX10_flow 23 = .ok (.aload_n 0, 1) := by decide +kernel
theorem dX10_flow_24 : decode cX10_flow 24 = .ok (.getfield 38, 3) := by decide +kernel
theorem dX10_flow_27 : decode cX10_flow 27 = .ok (.iload_n 1, 1) := by decide +kernel
theorem dX10_flow_28 : decode cX10_flow 28 = .ok (.laload, 1) := by decide +kernel
theorem dX10_flow_29 : decode cX10_flow 29 = .ok (.aload_n 0, 1) := by decide +kernel
theorem dX10_flow_30 : decode cX10_flow 30 = .ok (.getfield 125, 3) := by decide +kernel
theorem dX10_flow_33 : decode cX10_flow 33 = .ok (.iconst 1, 1) := by decide +kernel
theorem dX10_flow_34 : decode cX10_flow 34 = .ok (.if_icmp .ne 10, 3) := by decide +kernel
theorem dX10_flow_37 : decode cX10_flow 37 = .ok (.aload_n 0, 1) := by decide +kernel
theorem dX10_flow_38 : decode cX10_flow 38 = .ok (.getfield 156, 3) := by decide +kernel
theorem dX10_flow_41 : decode cX10_flow 41 = .ok (.goto 4, 3) := by decide +kernel
theorem dX10_flow_44 : decode cX10_flow 44 = .ok (.lconst 1, 1) := by decide +kernel
theorem dX10_flow_45 : decode cX10_flow 45 = .ok (.iload_n 2, 1) := by decide +kernel
theorem dX10_flow_46 : decode cX10_flow 46 = .ok (.invokestatic 235, 3) := by decide +kernel
theorem dX10_flow_49 : decode cX10_flow 49 = .ok (.lreturn, 1) := by decide +kernel
theorem dX10_reducedCost_0 : decode cX10_reducedCost 0 = .ok (.aload_n 0, 1) := by decide +kernel
theorem dX10_reducedCost_1 : decode cX10_reducedCost 1 = .ok (.getfield 128, 3) := by decide +kernel
theorem dX10_reducedCost_4 : decode cX10_reducedCost 4 = .ok (.ifCond .eq 11, 3) := by decide +kernel
theorem dX10_reducedCost_7 : decode cX10_reducedCost 7 = .ok (.aload_n 0, 1) := by decide +kernel
theorem dX10_reducedCost_8 : decode cX10_reducedCost 8 = .ok (.iload_n 1, 1) := by decide +kernel
theorem dX10_reducedCost_9 : decode cX10_reducedCost 9 = .ok (.invokevirtual 149, 3) := by decide +kernel
theorem dX10_reducedCost_12 : decode cX10_reducedCost 12 = .ok (.ifCond .eq 7, 3) := by decide +kernel
theorem dX10_reducedCost_15 : decode cX10_reducedCost 15 = .ok (.invokestatic 228, 3) := by decide +kernel
theorem dX10_reducedCost_18 : decode cX10_reducedCost 18 = .ok (.lreturn, 1) := by decide +kernel
theorem dX10_reducedCost_19 : decode cX10_reducedCost 19 = .ok (.aload_n 0, 1) := by decide +kernel
theorem dX10_reducedCost_20 : decode cX10_reducedCost 20 = .ok (.invokevirtual 221, 3) := by decide +kernel
theorem dX10_reducedCost_23 : decode cX10_reducedCost 23 = .ok (.aload_n 0, 1) := by decide +kernel
theorem dX10_reducedCost_24 : decode cX10_reducedCost 24 = .ok (.iload_n 1, 1) := by decide +kernel
theorem dX10_reducedCost_25 : decode cX10_reducedCost 25 = .ok (.invokevirtual 168, 3) := by decide +kernel
theorem dX10_reducedCost_28 : decode cX10_reducedCost 28 = .ok (.lreturn, 1) := by decide +kernel
theorem dX10_potential_0 : decode cX10_potential 0 = .ok (.aload_n 0, 1) := by decide +kernel
theorem dX10_potential_1 : decode cX10_potential 1 = .ok (.getfield 128, 3) := by decide +kernel
theorem dX10_potential_4 : decode cX10_potential 4 = .ok (.ifCond .eq 11, 3) := by decide +kernel
theorem dX10_potential_7 : decode cX10_potential 7 = .ok (.aload_n 0, 1) := by decide +kernel
theorem dX10_potential_8 : decode cX10_potential 8 = .ok (.iload_n 1, 1) := by decide +kernel
theorem dX10_potential_9 : decode cX10_potential 9 = .ok (.invokevirtual 136, 3) := by decide +kernel
theorem dX10_potential_12 : decode cX10_potential 12 = .ok (.ifCond .eq 7, 3) := by decide +kernel
theorem dX10_potential_15 : decode cX10_potential 15 = .ok (.invokestatic 228, 3) := by decide +kernel
theorem dX10_potential_18 : decode cX10_potential 18 = .ok (.lreturn, 1) := by decide +kernel
theorem dX10_potential_19 : decode cX10_potential 19 = .ok (.aload_n 0, 1) := by decide +kernel
theorem dX10_potential_20 : decode cX10_potential 20 = .ok (.invokevirtual 221, 3) := by decide +kernel
theorem dX10_potential_23 : decode cX10_potential 23 = .ok (.aload_n 0, 1) := by decide +kernel
theorem dX10_potential_24 : decode cX10_potential 24 = .ok (.getfield 62, 3) := by decide +kernel
theorem dX10_potential_27 : decode cX10_potential 27 = .ok (.iload_n 1, 1) := by decide +kernel
theorem dX10_potential_28 : decode cX10_potential 28 = .ok (.laload, 1) := by decide +kernel
theorem dX10_potential_29 : decode cX10_potential 29 = .ok (.lreturn, 1) := by decide +kernel
theorem dX10_bound_0 : decode cX10_bound 0 = .ok (.aload_n 0, 1) := by decide +kernel
theorem dX10_bound_1 : decode cX10_bound 1 = .ok (.iload_n 1, 1) := by decide +kernel
theorem dX10_bound_2 : decode cX10_bound 2 = .ok (.invokevirtual 149, 3) := by decide +kernel
theorem dX10_bound_5 : decode cX10_bound 5 = .ok (.ifCond .eq 7, 3) := by decide +kernel
theorem dX10_bound_8 : decode cX10_bound 8 = .ok (.sipush (-10001), 3) := by decide +kernel
theorem dX10_bound_11 : decode cX10_bound 11 = .ok (.ireturn, 1) := by decide +kernel
theorem dX10_bound_12 : decode cX10_bound 12 = .ok (.aload_n 0, 1) := by decide +kernel
theorem dX10_bound_13 : decode cX10_bound 13 = .ok (.getfield 128, 3) := by decide +kernel
theorem dX10_bound_16 : decode cX10_bound 16 = .ok (.ifCond .ne 7, 3) := by decide +kernel
theorem dX10_bound_19 : decode cX10_bound 19 = .ok (.sipush (-10005), 3) := by decide +kernel
theorem dX10_bound_22 : decode cX10_bound 22 = .ok (.ireturn, 1) := by decide +kernel
theorem dX10_bound_23 : decode cX10_bound 23 = .ok (.aload_n 0, 1) := by decide +kernel
theorem dX10_bound_24 : decode cX10_bound 24 = .ok (.invokevirtual 221, 3) := by decide +kernel
theorem dX10_bound_27 : decode cX10_bound 27 = .ok (.aload_n 0, 1) := by decide +kernel
theorem dX10_bound_28 : decode cX10_bound 28 = .ok (.getfield 41, 3) := by decide +kernel
theorem dX10_bound_31 : decode cX10_bound 31 = .ok (.iload_n 1, 1) := by decide +kernel
theorem dX10_bound_32 : decode cX10_bound 32 = .ok (.iaload, 1) := by decide +kernel
theorem dX10_bound_33 : decode cX10_bound 33 = .ok (.ireturn, 1) := by decide +kernel
theorem dX10_tree_0 : decode cX10_tree 0 = .ok (.aload_n 0, 1) := by decide +kernel
theorem dX10_tree_1 : decode cX10_tree 1 = .ok (.iload_n 1, 1) := by decide +kernel
theorem dX10_tree_2 : decode cX10_tree 2 = .ok (.invokevirtual 136, 3) := by decide +kernel
theorem dX10_tree_5 : decode cX10_tree 5 = .ok (.ifCond .eq 7, 3) := by decide +kernel
theorem dX10_tree_8 : decode cX10_tree 8 = .ok (.sipush (-10001), 3) := by decide +kernel
theorem dX10_tree_11 : decode cX10_tree 11 = .ok (.ireturn, 1) := by decide +kernel
theorem dX10_tree_12 : decode cX10_tree 12 = .ok (.aload_n 0, 1) := by decide +kernel
theorem dX10_tree_13 : decode cX10_tree 13 = .ok (.getfield 128, 3) := by decide +kernel
theorem dX10_tree_16 : decode cX10_tree 16 = .ok (.ifCond .ne 7, 3) := by decide +kernel
theorem dX10_tree_19 : decode cX10_tree 19 = .ok (.sipush (-10005), 3) := by decide +kernel
theorem dX10_tree_22 : decode cX10_tree 22 = .ok (.ireturn, 1) := by decide +kernel
theorem dX10_tree_23 : decode cX10_tree 23 = .ok (.iload_n 2, 1) := by decide +kernel
theorem dX10_tree_24 : decode cX10_tree 24 = .ok (.iconst 0, 1) := by decide +kernel
theorem dX10_tree_25 : decode cX10_tree 25 = .ok (.iconst 3, 1) := by decide +kernel
theorem dX10_tree_26 : decode cX10_tree 26 = .ok (.invokestatic 132, 3) := by decide +kernel
theorem dX10_tree_29 : decode cX10_tree 29 = .ok (.ifCond .ne 7, 3) := by decide +kernel
theorem dX10_tree_32 : decode cX10_tree 32 = .ok (.sipush (-10002), 3) := by decide +kernel
theorem dX10_tree_35 : decode cX10_tree 35 = .ok (.ireturn, 1) := by decide +kernel
theorem dX10_tree_36 : decode cX10_tree 36 = .ok (.aload_n 0, 1) := by decide +kernel
theorem dX10_tree_37 : decode cX10_tree 37 = .ok (.invokevirtual 221, 3) := by decide +kernel
theorem dX10_tree_40 : decode cX10_tree 40 = .ok (.iconst 0, 1) := by decide +kernel
theorem dX10_tree_41 : decode cX10_tree 41 = .ok (.istore_n 3, 1) := by decide +kernel
theorem dX10_tree_42 : decode cX10_tree 42 = .ok (.iconst 0, 1) := by decide +kernel
theorem dX10_tree_43 : decode cX10_tree 43 = .ok (.istore 4, 2) := by decide +kernel
theorem dX10_tree_45 : decode cX10_tree 45 = .ok (.iload 4, 2) := by decide +kernel
theorem dX10_tree_47 : decode cX10_tree 47 = .ok (.aload_n 0, 1) := by decide +kernel
theorem dX10_tree_48 : decode cX10_tree 48 = .ok (.getfield 118, 3) := by decide +kernel
theorem dX10_tree_51 : decode cX10_tree 51 = .ok (.if_icmp .ge 27, 3) := by decide +kernel
theorem dX10_tree_54 : decode cX10_tree 54 = .ok (.iload_n 3, 1) := by decide +kernel
theorem dX10_tree_55 : decode cX10_tree 55 = .ok (.aload_n 0, 1) := by decide +kernel
theorem dX10_tree_56 : decode cX10_tree 56 = .ok (.iload 4, 2) := by decide +kernel
theorem dX10_tree_58 : decode cX10_tree 58 = .ok (.iload_n 1, 1) := by decide +kernel
theorem dX10_tree_59 : decode cX10_tree 59 = .ok (.invokevirtual 185, 3) := by decide +kernel
theorem dX10_tree_62 : decode cX10_tree 62 = .ok (.ifCond .eq 7, 3) := by decide +kernel
theorem dX10_tree_65 : decode cX10_tree 65 = .ok (.iconst 1, 1) := by decide +kernel
theorem dX10_tree_66 : decode cX10_tree 66 = .ok (.goto 4, 3) := by decide +kernel
theorem dX10_tree_69 : decode cX10_tree 69 = .ok (.iconst 0, 1) := by decide +kernel
theorem dX10_tree_70 : decode cX10_tree 70 = .ok (.iadd, 1) := by decide +kernel
theorem dX10_tree_71 : decode cX10_tree 71 = .ok (.istore_n 3, 1) := by decide +kernel
theorem dX10_tree_72 : decode cX10_tree 72 = .ok (.iinc 4 1, 3) := by decide +kernel
theorem dX10_tree_75 : decode cX10_tree 75 = .ok (.goto (-30), 3) := by decide +kernel
theorem dX10_tree_78 : decode cX10_tree 78 = .ok (.iload_n 2, 1) := by decide +kernel
theorem dX10_tree_79 : decode cX10_tree 79 = .ok (.ifCond .ne 30, 3) := by decide +kernel
theorem dX10_tree_82 : decode cX10_tree 82 = .ok (.aload_n 0, 1) := by decide +kernel
theorem dX10_tree_83 : decode cX10_tree 83 = .ok (.getfield 53, 3) := by decide +kernel
theorem dX10_tree_86 : decode cX10_tree 86 = .ok (.iload_n 1, 1) := by decide +kernel
theorem dX10_tree_87 : decode cX10_tree 87 = .ok (.iaload, 1) := by decide +kernel
theorem dX10_tree_88 : decode cX10_tree 88 = .ok (.bipush 8, 2) := by decide +kernel
theorem dX10_tree_90 : decode cX10_tree 90 = .ok (.if_icmp .ne 10, 3) := by decide +kernel
theorem dX10_tree_93 : decode cX10_tree 93 = .ok (.aload_n 0, 1) := by decide +kernel
theorem dX10_tree_94 : decode cX10_tree 94 = .ok (.getfield 118, 3) := by decide +kernel
theorem dX10_tree_97 : decode cX10_tree 97 = .ok (.goto 44, 3) := by decide +kernel
theorem dX10_tree_100 : decode cX10_tree 100 = .ok (.aload_n 0, 1) := by decide +kernel
theorem dX10_tree_101 : decode cX10_tree 101 = .ok (.getfield 53, 3) := by decide +kernel
theorem dX10_tree_104 : decode cX10_tree 104 = .ok (.iload_n 1, 1) := by decide +kernel
theorem dX10_tree_105 : decode cX10_tree 105 = .ok (.iaload, 1) := by decide +kernel
theorem dX10_tree_106 : decode cX10_tree 106 = .ok (.goto 35, 3) := by decide +kernel
theorem dX10_tree_109 : decode cX10_tree 109 = .ok (.iload_n 2, 1) := by decide +kernel
theorem dX10_tree_110 : decode cX10_tree 110 = .ok (.iconst 1, 1) := by decide +kernel
theorem dX10_tree_111 : decode cX10_tree 111 = .ok (.if_icmp .ne 15, 3) := by decide +kernel
theorem dX10_tree_114 : decode cX10_tree 114 = .ok (.aload_n 0, 1) := by decide +kernel
theorem dX10_tree_115 : decode cX10_tree 115 = .ok (.getfield 56, 3) := by decide +kernel
theorem dX10_tree_118 : decode cX10_tree 118 = .ok (.iload_n 1, 1) := by decide +kernel
theorem dX10_tree_119 : decode cX10_tree 119 = .ok (.iaload, 1) := by decide +kernel
theorem dX10_tree_120 : decode cX10_tree 120 = .ok (.invokestatic 224, 3) := by decide +kernel
theorem dX10_tree_123 : decode cX10_tree 123 = .ok (.goto 18, 3) := by decide +kernel
theorem dX10_tree_126 : decode cX10_tree 126 = .ok (.iload_n 2, 1) := by decide +kernel
theorem dX10_tree_127 : decode cX10_tree 127 = .ok (.iconst 2, 1) := by decide +kernel
theorem dX10_tree_128 : decode cX10_tree 128 = .ok (.if_icmp .ne 12, 3) := by decide +kernel
theorem dX10_tree_131 : decode cX10_tree 131 = .ok (.aload_n 0, 1) := by decide +kernel
theorem dX10_tree_132 : decode cX10_tree 132 = .ok (.getfield 59, 3) := by decide +kernel
theorem dX10_tree_135 : decode cX10_tree 135 = .ok (.iload_n 1, 1) := by decide +kernel
theorem dX10_tree_136 : decode cX10_tree 136 = .ok (.iaload, 1) := by decide +kernel
theorem dX10_tree_137 : decode cX10_tree 137 = .ok (.goto 4, 3) := by decide +kernel
theorem dX10_tree_140 : decode cX10_tree 140 = .ok (.iload_n 3, 1) := by decide +kernel
theorem dX10_tree_141 : decode cX10_tree 141 = .ok (.ireturn, 1) := by decide +kernel
theorem dX10_preorder_0 : decode cX10_preorder 0 = .ok (.aload_n 0, 1) := by decide +kernel
theorem dX10_preorder_1 : decode cX10_preorder 1 = .ok (.getfield 128, 3) := by decide +kernel
theorem dX10_preorder_4 : decode cX10_preorder 4 = .ok (.ifCond .ne 7, 3) := by decide +kernel
theorem dX10_preorder_7 : decode cX10_preorder 7 = .ok (.sipush (-10005), 3) := by decide +kernel
theorem dX10_preorder_10 : decode cX10_preorder 10 = .ok (.ireturn, 1) := by decide +kernel
theorem dX10_preorder_11 : decode cX10_preorder 11 = .ok (.iload_n 1, 1) := by decide +kernel
theorem dX10_preorder_12 : decode cX10_preorder 12 = .ok (.ifCond .ge 7, 3) := by decide +kernel
theorem dX10_preorder_15 : decode cX10_preorder 15 = .ok (.sipush (-10002), 3) := by decide +kernel
theorem dX10_preorder_18 : decode cX10_preorder 18 = .ok (.ireturn, 1) := by decide +kernel
theorem dX10_preorder_19 : decode cX10_preorder 19 = .ok (.iload_n 1, 1) := by decide +kernel
theorem dX10_preorder_20 : decode cX10_preorder 20 = .ok (.aload_n 0, 1) := by decide +kernel
theorem dX10_preorder_21 : decode cX10_preorder 21 = .ok (.getfield 118, 3) := by decide +kernel
theorem dX10_preorder_24 : decode cX10_preorder 24 = .ok (.if_icmp .le 7, 3) := by decide +kernel
theorem dX10_preorder_27 : decode cX10_preorder 27 = .ok (.sipush (-10007), 3) := by decide +kernel
theorem dX10_preorder_30 : decode cX10_preorder 30 = .ok (.ireturn, 1) := by decide +kernel
theorem dX10_preorder_31 : decode cX10_preorder 31 = .ok (.aload_n 0, 1) := by decide +kernel
theorem dX10_preorder_32 : decode cX10_preorder 32 = .ok (.invokevirtual 221, 3) := by decide +kernel
theorem dX10_preorder_35 : decode cX10_preorder 35 = .ok (.bipush 8, 2) := by decide +kernel
theorem dX10_preorder_37 : decode cX10_preorder 37 = .ok (.istore_n 2, 1) := by decide +kernel
theorem dX10_preorder_38 : decode cX10_preorder 38 = .ok (.iconst 0, 1) := by decide +kernel
theorem dX10_preorder_39 : decode cX10_preorder 39 = .ok (.istore_n 3, 1) := by decide +kernel
theorem dX10_preorder_40 : decode cX10_preorder 40 = .ok (.iload_n 3, 1) := by decide +kernel
theorem dX10_preorder_41 : decode cX10_preorder 41 = .ok (.iload_n 1, 1) := by decide +kernel
theorem dX10_preorder_42 : decode cX10_preorder 42 = .ok (.if_icmp .ge 15, 3) := by decide +kernel
theorem dX10_preorder_45 : decode cX10_preorder 45 = .ok (.aload_n 0, 1) := by decide +kernel
theorem dX10_preorder_46 : decode cX10_preorder 46 = .ok (.iload_n 2, 1) := by decide +kernel
theorem dX10_preorder_47 : decode cX10_preorder 47 = .ok (.invokevirtual 239, 3) := by decide +kernel
theorem dX10_preorder_50 : decode cX10_preorder 50 = .ok (.istore_n 2, 1) := by decide +kernel
theorem dX10_preorder_51 : decode cX10_preorder 51 = .ok (.iinc 3 1, 3) := by decide +kernel
theorem dX10_preorder_54 : decode cX10_preorder 54 = .ok (.goto (-14), 3) := by decide +kernel
theorem dX10_preorder_57 : decode cX10_preorder 57 = .ok (.iload_n 2, 1) := by decide +kernel
theorem dX10_preorder_58 : decode cX10_preorder 58 = .ok (.bipush 8, 2) := by decide +kernel
theorem dX10_preorder_60 : decode cX10_preorder 60 = .ok (.if_icmp .ne 10, 3) := by decide +kernel
theorem dX10_preorder_63 : decode cX10_preorder 63 = .ok (.aload_n 0, 1) := by decide +kernel
theorem dX10_preorder_64 : decode cX10_preorder 64 = .ok (.getfield 118, 3) := by decide +kernel
theorem dX10_preorder_67 : decode cX10_preorder 67 = .ok (.goto 4, 3) := by decide +kernel
theorem dX10_preorder_70 : decode cX10_preorder 70 = .ok (.iload_n 2, 1) := by decide +kernel
theorem dX10_preorder_71 : decode cX10_preorder 71 = .ok (.ireturn, 1) := by decide +kernel
theorem dX10_limit_0 : decode cX10_limit 0 = .ok (.aload_n 0, 1) := by decide +kernel
theorem dX10_limit_1 : decode cX10_limit 1 = .ok (.getfield 128, 3) := by decide +kernel
theorem dX10_limit_4 : decode cX10_limit 4 = .ok (.ifCond .ne 7, 3) := by decide +kernel
theorem dX10_limit_7 : decode cX10_limit 7 = .ok (.invokestatic 228, 3) := by decide +kernel
theorem dX10_limit_10 : decode cX10_limit 10 = .ok (.lreturn, 1) := by decide +kernel
theorem dX10_limit_11 : decode cX10_limit 11 = .ok (.aload_n 0, 1) := by decide +kernel
theorem dX10_limit_12 : decode cX10_limit 12 = .ok (.invokevirtual 221, 3) := by decide +kernel
theorem dX10_limit_15 : decode cX10_limit 15 = .ok (.aload_n 0, 1) := by decide +kernel
theorem dX10_limit_16 : decode cX10_limit 16 = .ok (.invokevirtual 269, 3) := by decide +kernel
theorem dX10_limit_19 : decode cX10_limit 19 = .ok (.iload_n 1, 1) := by decide +kernel
theorem dX10_limit_20 : decode cX10_limit 20 = .ok (.ifCond .eq 29, 3) := by decide +kernel
theorem dX10_limit_23 : decode cX10_limit 23 = .ok (.aload_n 0, 1) := by decide +kernel
theorem dX10_limit_24 : decode cX10_limit 24 = .ok (.getfield 251, 3) := by decide +kernel
theorem dX10_limit_27 : decode cX10_limit 27 = .ok (.ifCond .eq 18, 3) := by decide +kernel
theorem dX10_limit_30 : decode cX10_limit 30 = .ok (.aload_n 0, 1) := by decide +kernel
theorem dX10_limit_31 : decode cX10_limit 31 = .ok (.getfield 257, 3) := by decide +kernel
theorem dX10_limit_34 : decode cX10_limit 34 = .ok (.aload_n 0, 1) := by decide +kernel
theorem dX10_limit_35 : decode cX10_limit 35 = .ok (.getfield 254, 3) := by decide +kernel
theorem dX10_limit_38 : decode cX10_limit 38 = .ok (.iload_n 2, 1) := by decide +kernel
theorem dX10_limit_39 : decode cX10_limit 39 = .ok (.invokestatic 235, 3) := by decide +kernel
theorem dX10_limit_42 : decode cX10_limit 42 = .ok (.goto 6, 3) := by decide +kernel
theorem dX10_limit_45 : decode cX10_limit 45 = .ok (.invokestatic 228, 3) := by decide +kernel
theorem dX10_limit_48 : decode cX10_limit 48 = .ok (.lreturn, 1) := by decide +kernel
theorem dX10_limit_49 : decode cX10_limit 49 = .ok (.aload_n 0, 1) := by decide +kernel
theorem dX10_limit_50 : decode cX10_limit 50 = .ok (.getfield 242, 3) := by decide +kernel
theorem dX10_limit_53 : decode cX10_limit 53 = .ok (.ifCond .eq 18, 3) := by decide +kernel
theorem dX10_limit_56 : decode cX10_limit 56 = .ok (.aload_n 0, 1) := by decide +kernel
theorem dX10_limit_57 : decode cX10_limit 57 = .ok (.getfield 248, 3) := by decide +kernel
theorem dX10_limit_60 : decode cX10_limit 60 = .ok (.aload_n 0, 1) := by decide +kernel
theorem dX10_limit_61 : decode cX10_limit 61 = .ok (.getfield 245, 3) := by decide +kernel
theorem dX10_limit_64 : decode cX10_limit 64 = .ok (.iload_n 2, 1) := by decide +kernel
theorem dX10_limit_65 : decode cX10_limit 65 = .ok (.invokestatic 235, 3) := by decide +kernel
theorem dX10_limit_68 : decode cX10_limit 68 = .ok (.goto 6, 3) := by decide +kernel
theorem dX10_limit_71 : decode cX10_limit 71 = .ok (.invokestatic 228, 3) := by decide +kernel
theorem dX10_limit_74 : decode cX10_limit 74 = .ok (.lreturn, 1) := by decide +kernel
theorem dX10_layLine_0 : decode cX10_layLine 0 = .ok (.aload_n 0, 1) := by decide +kernel
theorem dX10_layLine_1 : decode cX10_layLine 1 = .ok (.lconst 0, 1) := by decide +kernel
theorem dX10_layLine_2 : decode cX10_layLine 2 = .ok (.putfield 272, 3) := by decide +kernel
theorem dX10_layLine_5 : decode cX10_layLine 5 = .ok (.aload_n 0, 1) := by decide +kernel
theorem dX10_layLine_6 : decode cX10_layLine 6 = .ok (.lconst 0, 1) := by decide +kernel
theorem dX10_layLine_7 : decode cX10_layLine 7 = .ok (.putfield 275, 3) := by decide +kernel
theorem dX10_layLine_10 : decode cX10_layLine 10 = .ok (.iconst 0, 1) := by decide +kernel
theorem dX10_layLine_11 : decode cX10_layLine 11 = .ok (.istore_n 1, 1) := by decide +kernel
theorem dX10_layLine_12 : decode cX10_layLine 12 = .ok (.iload_n 1, 1) := by decide +kernel
theorem dX10_layLine_13 : decode cX10_layLine 13 = .ok (.aload_n 0, 1) := by decide +kernel
theorem dX10_layLine_14 : decode cX10_layLine 14 = .ok (.getfield 122, 3) := by decide +kernel
theorem dX10_layLine_17 : decode cX10_layLine 17 = .ok (.if_icmp .ge 99, 3) := by decide +kernel
theorem dX10_layLine_20 : decode cX10_layLine 20 = .ok (.aload_n 0, 1) := by decide +kernel
theorem dX10_layLine_21 : decode cX10_layLine 21 = .ok (.getfield 125, 3) := by decide +kernel
theorem dX10_layLine_24 : decode cX10_layLine 24 = .ok (.ifCond .ne 52, 3) := by decide +kernel
theorem dX10_layLine_27 : decode cX10_layLine 27 = .ok (.aload_n 0, 1) := by decide +kernel
theorem dX10_layLine_28 : decode cX10_layLine 28 = .ok (.dup, 1) := by decide +kernel
theorem dX10_layLine_29 : decode cX10_layLine 29 = .ok (.getfield 272, 3) := by decide +kernel
theorem dX10_layLine_32 : decode cX10_layLine 32 = .ok (.aload_n 0, 1) := by decide +kernel
theorem dX10_layLine_33 : decode cX10_layLine 33 = .ok (.getfield 38, 3) := by decide +kernel
theorem dX10_layLine_36 : decode cX10_layLine 36 = .ok (.iload_n 1, 1) := by decide +kernel
theorem dX10_layLine_37 : decode cX10_layLine 37 = .ok (.laload, 1) := by decide +kernel
theorem dX10_layLine_38 : decode cX10_layLine 38 = .ok (.aload_n 0, 1) := by decide +kernel
theorem dX10_layLine_39 : decode cX10_layLine 39 = .ok (.getfield 19, 3) := by decide +kernel
theorem dX10_layLine_42 : decode cX10_layLine 42 = .ok (.iload_n 1, 1) := by decide +kernel
theorem dX10_layLine_43 : decode cX10_layLine 43 = .ok (.iaload, 1) := by decide +kernel
theorem dX10_layLine_44 : decode cX10_layLine 44 = .ok (.i2l, 1) := by decide +kernel
theorem dX10_layLine_45 : decode cX10_layLine 45 = .ok (.lmul, 1) := by decide +kernel
theorem dX10_layLine_46 : decode cX10_layLine 46 = .ok (.ladd, 1) := by decide +kernel
theorem dX10_layLine_47 : decode cX10_layLine 47 = .ok (.putfield 272, 3) := by decide +kernel
theorem dX10_layLine_50 : decode cX10_layLine 50 = .ok (.aload_n 0, 1) := by decide +kernel
theorem dX10_layLine_51 : decode cX10_layLine 51 = .ok (.dup, 1) := by decide +kernel
theorem dX10_layLine_52 : decode cX10_layLine 52 = .ok (.getfield 275, 3) := by decide +kernel
theorem dX10_layLine_55 : decode cX10_layLine 55 = .ok (.aload_n 0, 1) := by decide +kernel
theorem dX10_layLine_56 : decode cX10_layLine 56 = .ok (.getfield 38, 3) := by decide +kernel
theorem dX10_layLine_59 : decode cX10_layLine 59 = .ok (.iload_n 1, 1) := by decide +kernel
theorem dX10_layLine_60 : decode cX10_layLine 60 = .ok (.laload, 1) := by decide +kernel
theorem dX10_layLine_61 : decode cX10_layLine 61 = .ok (.aload_n 0, 1) := by decide +kernel
theorem dX10_layLine_62 : decode cX10_layLine 62 = .ok (.getfield 22, 3) := by decide +kernel
theorem dX10_layLine_65 : decode cX10_layLine 65 = .ok (.iload_n 1, 1) := by decide +kernel
theorem dX10_layLine_66 : decode cX10_layLine 66 = .ok (.iaload, 1) := by decide +kernel
theorem dX10_layLine_67 : decode cX10_layLine 67 = .ok (.i2l, 1) := by decide +kernel
theorem dX10_layLine_68 : decode cX10_layLine 68 = .ok (.lmul, 1) := by decide +kernel
theorem dX10_layLine_69 : decode cX10_layLine 69 = .ok (.ladd, 1) := by decide +kernel
theorem dX10_layLine_70 : decode cX10_layLine 70 = .ok (.putfield 275, 3) := by decide +kernel
theorem dX10_layLine_73 : decode cX10_layLine 73 = .ok (.goto 37, 3) := by decide +kernel
theorem dX10_layLine_76 : decode cX10_layLine 76 = .ok (.aload_n 0, 1) := by decide +kernel
theorem dX10_layLine_77 : decode cX10_layLine 77 = .ok (.iload_n 1, 1) := by decide +kernel
theorem dX10_layLine_78 : decode cX10_layLine 78 = .ok (.invokevirtual 168, 3) := by decide +kernel
theorem dX10_layLine_81 : decode cX10_layLine 81 = .ok (.lstore_n 2, 1) := by decide +kernel
theorem dX10_layLine_82 : decode cX10_layLine 82 = .ok (.aload_n 0, 1) := by decide +kernel
theorem dX10_layLine_83 : decode cX10_layLine 83 = .ok (.dup, 1) := by decide +kernel
theorem dX10_layLine_84 : decode cX10_layLine 84 = .ok (.getfield 272, 3) := by decide +kernel
theorem dX10_layLine_87 : decode cX10_layLine 87 = .ok (.lload_n 2, 1) := by decide +kernel
theorem dX10_layLine_88 : decode cX10_layLine 88 = .ok (.lconst 0, 1) := by decide +kernel
theorem dX10_layLine_89 : decode cX10_layLine 89 = .ok (.lcmp, 1) := by decide +kernel
theorem dX10_layLine_90 : decode cX10_layLine 90 = .ok (.ifCond .ge 15, 3) := by decide +kernel
theorem dX10_layLine_93 : decode cX10_layLine 93 = .ok (.lload_n 2, 1) := by decide +kernel
theorem dX10_layLine_94 : decode cX10_layLine 94 = .ok (.aload_n 0, 1) := by decide +kernel
theorem dX10_layLine_95 : decode cX10_layLine 95 = .ok (.getfield 16, 3) := by decide +kernel
theorem dX10_layLine_98 : decode cX10_layLine 98 = .ok (.iload_n 1, 1) := by decide +kernel
theorem dX10_layLine_99 : decode cX10_layLine 99 = .ok (.iaload, 1) := by decide +kernel
theorem dX10_layLine_100 : decode cX10_layLine 100 = .ok (.i2l, 1) := by decide +kernel
theorem dX10_layLine_101 : decode cX10_layLine 101 = .ok (.lmul, 1) := by decide +kernel
theorem dX10_layLine_102 : decode cX10_layLine 102 = .ok (.goto 4, 3) := by decide +kernel
theorem dX10_layLine_105 : decode cX10_layLine 105 = .ok (.lconst 0, 1) := by decide +kernel
theorem dX10_layLine_106 : decode cX10_layLine 106 = .ok (.ladd, 1) := by decide +kernel
theorem dX10_layLine_107 : decode cX10_layLine 107 = .ok (.putfield 272, 3) := by decide +kernel
theorem dX10_layLine_110 : decode cX10_layLine 110 = .ok (.iinc 1 1, 3) := by decide +kernel
theorem dX10_layLine_113 : decode cX10_layLine 113 = .ok (.goto (-101), 3) := by decide +kernel
theorem dX10_layLine_116 : decode cX10_layLine 116 = .ok (.iconst 0, 1) := by decide +kernel
theorem dX10_layLine_117 : decode cX10_layLine 117 = .ok (.istore_n 1, 1) := by decide +kernel
theorem dX10_layLine_118 : decode cX10_layLine 118 = .ok (.iload_n 1, 1) := by decide +kernel
theorem dX10_layLine_119 : decode cX10_layLine 119 = .ok (.aload_n 0, 1) := by decide +kernel
theorem dX10_layLine_120 : decode cX10_layLine 120 = .ok (.getfield 118, 3) := by decide +kernel
theorem dX10_layLine_123 : decode cX10_layLine 123 = .ok (.if_icmp .ge 63, 3) := by decide +kernel
theorem dX10_layLine_126 : decode cX10_layLine 126 = .ok (.aload_n 0, 1) := by decide +kernel
theorem dX10_layLine_127 : decode cX10_layLine 127 = .ok (.getfield 125, 3) := by decide +kernel
theorem dX10_layLine_130 : decode cX10_layLine 130 = .ok (.iconst 1, 1) := by decide +kernel
theorem dX10_layLine_131 : decode cX10_layLine 131 = .ok (.if_icmp .ne 55, 3) := by decide +kernel
theorem dX10_layLine_134 : decode cX10_layLine 134 = .ok (.aload_n 0, 1) := by decide +kernel
theorem dX10_layLine_135 : decode cX10_layLine 135 = .ok (.dup, 1) := by decide +kernel
theorem dX10_layLine_136 : decode cX10_layLine 136 = .ok (.getfield 272, 3) := by decide +kernel
theorem dX10_layLine_139 : decode cX10_layLine 139 = .ok (.aload_n 0, 1) := by decide +kernel
theorem dX10_layLine_140 : decode cX10_layLine 140 = .ok (.getfield 62, 3) := by decide +kernel
theorem dX10_layLine_143 : decode cX10_layLine 143 = .ok (.iload_n 1, 1) := by decide +kernel
theorem dX10_layLine_144 : decode cX10_layLine 144 = .ok (.laload, 1) := by decide +kernel
theorem dX10_layLine_145 : decode cX10_layLine 145 = .ok (.aload_n 0, 1) := by decide +kernel
theorem dX10_layLine_146 : decode cX10_layLine 146 = .ok (.getfield 25, 3) := by decide +kernel
theorem dX10_layLine_149 : decode cX10_layLine 149 = .ok (.iload_n 1, 1) := by decide +kernel
theorem dX10_layLine_150 : decode cX10_layLine 150 = .ok (.iaload, 1) := by decide +kernel
theorem dX10_layLine_151 : decode cX10_layLine 151 = .ok (.i2l, 1) := by decide +kernel
theorem dX10_layLine_152 : decode cX10_layLine 152 = .ok (.lmul, 1) := by decide +kernel
theorem dX10_layLine_153 : decode cX10_layLine 153 = .ok (.ladd, 1) := by decide +kernel
theorem dX10_layLine_154 : decode cX10_layLine 154 = .ok (.putfield 272, 3) := by decide +kernel
theorem dX10_layLine_157 : decode cX10_layLine 157 = .ok (.aload_n 0, 1) := by decide +kernel
theorem dX10_layLine_158 : decode cX10_layLine 158 = .ok (.dup, 1) := by decide +kernel
theorem dX10_layLine_159 : decode cX10_layLine 159 = .ok (.getfield 275, 3) := by decide +kernel
theorem dX10_layLine_162 : decode cX10_layLine 162 = .ok (.aload_n 0, 1) := by decide +kernel
theorem dX10_layLine_163 : decode cX10_layLine 163 = .ok (.getfield 62, 3) := by decide +kernel
theorem dX10_layLine_166 : decode cX10_layLine 166 = .ok (.iload_n 1, 1) := by decide +kernel
theorem dX10_layLine_167 : decode cX10_layLine 167 = .ok (.laload, 1) := by decide +kernel
theorem dX10_layLine_168 : decode cX10_layLine 168 = .ok (.aload_n 0, 1) := by decide +kernel
theorem dX10_layLine_169 : decode cX10_layLine 169 = .ok (.getfield 28, 3) := by decide +kernel
theorem dX10_layLine_172 : decode cX10_layLine 172 = .ok (.iload_n 1, 1) := by decide +kernel
theorem dX10_layLine_173 : decode cX10_layLine 173 = .ok (.iaload, 1) := by decide +kernel
theorem dX10_layLine_174 : decode cX10_layLine 174 = .ok (.i2l, 1) := by decide +kernel
theorem dX10_layLine_175 : decode cX10_layLine 175 = .ok (.lmul, 1) := by decide +kernel
theorem dX10_layLine_176 : decode cX10_layLine 176 = .ok (.ladd, 1) := by decide +kernel
theorem dX10_layLine_177 : decode cX10_layLine 177 = .ok (.putfield 275, 3) := by decide +kernel
theorem dX10_layLine_180 : decode cX10_layLine 180 = .ok (.iinc 1 1, 3) := by decide +kernel
theorem dX10_layLine_183 : decode cX10_layLine 183 = .ok (.goto (-65), 3) := by decide +kernel
theorem dX10_layLine_186 : decode cX10_layLine 186 = .ok (.return_, 1) := by decide +kernel
theorem dX10_insertPoint_0 : decode cX10_insertPoint 0 = .ok (.aload_n 0, 1) := by decide +kernel
theorem dX10_insertPoint_1 : decode cX10_insertPoint 1 = .ok (.getfield 278, 3) := by decide +kernel
theorem dX10_insertPoint_4 : decode cX10_insertPoint 4 = .ok (.istore 6, 2) := by decide +kernel
theorem dX10_insertPoint_6 : decode cX10_insertPoint 6 = .ok (.iload 6, 2) := by decide +kernel
theorem dX10_insertPoint_8 : decode cX10_insertPoint 8 = .ok (.iload_n 1, 1) := by decide +kernel
theorem dX10_insertPoint_9 : decode cX10_insertPoint 9 = .ok (.if_icmp .le 105, 3) := by decide +kernel
theorem dX10_insertPoint_12 : decode cX10_insertPoint 12 = .ok (.aload_n 0, 1) := by decide +kernel
theorem dX10_insertPoint_13 : decode cX10_insertPoint 13 = .ok (.getfield 84, 3) := by decide +kernel
theorem dX10_insertPoint_16 : decode cX10_insertPoint 16 = .ok (.iload 6, 2) := by decide +kernel
theorem dX10_insertPoint_18 : decode cX10_insertPoint 18 = .ok (.aload_n 0, 1) := by decide +kernel
theorem dX10_insertPoint_19 : decode cX10_insertPoint 19 = .ok (.getfield 84, 3) := by decide +kernel
theorem dX10_insertPoint_22 : decode cX10_insertPoint 22 = .ok (.iload 6, 2) := by decide +kernel
theorem dX10_insertPoint_24 : decode cX10_insertPoint 24 = .ok (.iconst 1, 1) := by decide +kernel
theorem dX10_insertPoint_25 : decode cX10_insertPoint 25 = .ok (.isub, 1) := by decide +kernel
theorem dX10_insertPoint_26 : decode cX10_insertPoint 26 = .ok (.laload, 1) := by decide +kernel
theorem dX10_insertPoint_27 : decode cX10_insertPoint 27 = .ok (.lastore, 1) := by decide +kernel
theorem dX10_insertPoint_28 : decode cX10_insertPoint 28 = .ok (.aload_n 0, 1) := by decide +kernel
theorem dX10_insertPoint_29 : decode cX10_insertPoint 29 = .ok (.getfield 87, 3) := by decide +kernel
theorem dX10_insertPoint_32 : decode cX10_insertPoint 32 = .ok (.iload 6, 2) := by decide +kernel
theorem dX10_insertPoint_34 : decode cX10_insertPoint 34 = .ok (.aload_n 0, 1) := by decide +kernel
theorem dX10_insertPoint_35 : decode cX10_insertPoint 35 = .ok (.getfield 87, 3) := by decide +kernel
theorem dX10_insertPoint_38 : decode cX10_insertPoint 38 = .ok (.iload 6, 2) := by decide +kernel
theorem dX10_insertPoint_40 : decode cX10_insertPoint 40 = .ok (.iconst 1, 1) := by decide +kernel
theorem dX10_insertPoint_41 : decode cX10_insertPoint 41 = .ok (.isub, 1) := by decide +kernel
theorem dX10_insertPoint_42 : decode cX10_insertPoint 42 = .ok (.laload, 1) := by decide +kernel
theorem dX10_insertPoint_43 : decode cX10_insertPoint 43 = .ok (.lastore, 1) := by decide +kernel
theorem dX10_insertPoint_44 : decode cX10_insertPoint 44 = .ok (.aload_n 0, 1) := by decide +kernel
theorem dX10_insertPoint_45 : decode cX10_insertPoint 45 = .ok (.getfield 90, 3) := by decide +kernel
theorem dX10_insertPoint_48 : decode cX10_insertPoint 48 = .ok (.iload 6, 2) := by decide +kernel
theorem dX10_insertPoint_50 : decode cX10_insertPoint 50 = .ok (.aload_n 0, 1) := by decide +kernel
theorem dX10_insertPoint_51 : decode cX10_insertPoint 51 = .ok (.getfield 90, 3) := by decide +kernel
theorem dX10_insertPoint_54 : decode cX10_insertPoint 54 = .ok (.iload 6, 2) := by decide +kernel
theorem dX10_insertPoint_56 : decode cX10_insertPoint 56 = .ok (.iconst 1, 1) := by decide +kernel
theorem dX10_insertPoint_57 : decode cX10_insertPoint 57 = .ok (.isub, 1) := by decide +kernel
theorem dX10_insertPoint_58 : decode cX10_insertPoint 58 = .ok (.laload, 1) := by decide +kernel
theorem dX10_insertPoint_59 : decode cX10_insertPoint 59 = .ok (.lastore, 1) := by decide +kernel
theorem dX10_insertPoint_60 : decode cX10_insertPoint 60 = .ok (.aload_n 0, 1) := by decide +kernel
theorem dX10_insertPoint_61 : decode cX10_insertPoint 61 = .ok (.getfield 93, 3) := by decide +kernel
theorem dX10_insertPoint_64 : decode cX10_insertPoint 64 = .ok (.iload 6, 2) := by decide +kernel
theorem dX10_insertPoint_66 : decode cX10_insertPoint 66 = .ok (.aload_n 0, 1) := by decide +kernel
theorem dX10_insertPoint_67 : decode cX10_insertPoint 67 = .ok (.getfield 93, 3) := by decide +kernel
theorem dX10_insertPoint_70 : decode cX10_insertPoint 70 = .ok (.iload 6, 2) := by decide +kernel
theorem dX10_insertPoint_72 : decode cX10_insertPoint 72 = .ok (.iconst 1, 1) := by decide +kernel
theorem dX10_insertPoint_73 : decode cX10_insertPoint 73 = .ok (.isub, 1) := by decide +kernel
theorem dX10_insertPoint_74 : decode cX10_insertPoint 74 = .ok (.laload, 1) := by decide +kernel
theorem dX10_insertPoint_75 : decode cX10_insertPoint 75 = .ok (.lastore, 1) := by decide +kernel
theorem dX10_insertPoint_76 : decode cX10_insertPoint 76 = .ok (.aload_n 0, 1) := by decide +kernel
theorem dX10_insertPoint_77 : decode cX10_insertPoint 77 = .ok (.getfield 96, 3) := by decide +kernel
theorem dX10_insertPoint_80 : decode cX10_insertPoint 80 = .ok (.iload 6, 2) := by decide +kernel
theorem dX10_insertPoint_82 : decode cX10_insertPoint 82 = .ok (.aload_n 0, 1) := by decide +kernel
theorem dX10_insertPoint_83 : decode cX10_insertPoint 83 = .ok (.getfield 96, 3) := by decide +kernel
theorem dX10_insertPoint_86 : decode cX10_insertPoint 86 = .ok (.iload 6, 2) := by decide +kernel
theorem dX10_insertPoint_88 : decode cX10_insertPoint 88 = .ok (.iconst 1, 1) := by decide +kernel
theorem dX10_insertPoint_89 : decode cX10_insertPoint 89 = .ok (.isub, 1) := by decide +kernel
theorem dX10_insertPoint_90 : decode cX10_insertPoint 90 = .ok (.baload, 1) := by decide +kernel
theorem dX10_insertPoint_91 : decode cX10_insertPoint 91 = .ok (.bastore, 1) := by decide +kernel
theorem dX10_insertPoint_92 : decode cX10_insertPoint 92 = .ok (.aload_n 0, 1) := by decide +kernel
theorem dX10_insertPoint_93 : decode cX10_insertPoint 93 = .ok (.getfield 99, 3) := by decide +kernel
theorem dX10_insertPoint_96 : decode cX10_insertPoint 96 = .ok (.iload 6, 2) := by decide +kernel
theorem dX10_insertPoint_98 : decode cX10_insertPoint 98 = .ok (.aload_n 0, 1) := by decide +kernel
theorem dX10_insertPoint_99 : decode cX10_insertPoint 99 = .ok (.getfield 99, 3) := by decide +kernel
theorem dX10_insertPoint_102 : decode cX10_insertPoint 102 = .ok (.iload 6, 2) := by decide +kernel
theorem dX10_insertPoint_104 : decode cX10_insertPoint 104 = .ok (.iconst 1, 1) := by decide +kernel
theorem dX10_insertPoint_105 : decode cX10_insertPoint 105 = .ok (.isub, 1) := by decide +kernel
theorem dX10_insertPoint_106 : decode cX10_insertPoint 106 = .ok (.laload, 1) := by decide +kernel
theorem dX10_insertPoint_107 : decode cX10_insertPoint 107 = .ok (.lastore, 1) := by decide +kernel
theorem dX10_insertPoint_108 : decode cX10_insertPoint 108 = .ok (.iinc 6 (-1), 3) := by decide +kernel
theorem dX10_insertPoint_111 : decode cX10_insertPoint 111 = .ok (.goto (-105), 3) := by decide +kernel
theorem dX10_insertPoint_114 : decode cX10_insertPoint 114 = .ok (.aload_n 0, 1) := by decide +kernel
theorem dX10_insertPoint_115 : decode cX10_insertPoint 115 = .ok (.dup, 1) := by decide +kernel
theorem dX10_insertPoint_116 : decode cX10_insertPoint 116 = .ok (.getfield 278, 3) := by decide +kernel
theorem dX10_insertPoint_119 : decode cX10_insertPoint 119 = .ok (.iconst 1, 1) := by decide +kernel
theorem dX10_insertPoint_120 : decode cX10_insertPoint 120 = .ok (.iadd, 1) := by decide +kernel
theorem dX10_insertPoint_121 : decode cX10_insertPoint 121 = .ok (.putfield 278, 3) := by decide +kernel
theorem dX10_insertPoint_124 : decode cX10_insertPoint 124 = .ok (.aload_n 0, 1) := by decide +kernel
theorem dX10_insertPoint_125 : decode cX10_insertPoint 125 = .ok (.getfield 84, 3) := by decide +kernel
theorem dX10_insertPoint_128 : decode cX10_insertPoint 128 = .ok (.iload_n 1, 1) := by decide +kernel
theorem dX10_insertPoint_129 : decode cX10_insertPoint 129 = .ok (.lload_n 2, 1) := by decide +kernel
theorem dX10_insertPoint_130 : decode cX10_insertPoint 130 = .ok (.lastore, 1) := by decide +kernel
theorem dX10_insertPoint_131 : decode cX10_insertPoint 131 = .ok (.aload_n 0, 1) := by decide +kernel
theorem dX10_insertPoint_132 : decode cX10_insertPoint 132 = .ok (.getfield 87, 3) := by decide +kernel
theorem dX10_insertPoint_135 : decode cX10_insertPoint 135 = .ok (.iload_n 1, 1) := by decide +kernel
theorem dX10_insertPoint_136 : decode cX10_insertPoint 136 = .ok (.lload 4, 2) := by decide +kernel
theorem dX10_insertPoint_138 : decode cX10_insertPoint 138 = .ok (.lastore, 1) := by decide +kernel
theorem dX10_insertPoint_139 : decode cX10_insertPoint 139 = .ok (.aload_n 0, 1) := by decide +kernel
theorem dX10_insertPoint_140 : decode cX10_insertPoint 140 = .ok (.getfield 90, 3) := by decide +kernel
theorem dX10_insertPoint_143 : decode cX10_insertPoint 143 = .ok (.iload_n 1, 1) := by decide +kernel
theorem dX10_insertPoint_144 : decode cX10_insertPoint 144 = .ok (.aload_n 0, 1) := by decide +kernel
theorem dX10_insertPoint_145 : decode cX10_insertPoint 145 = .ok (.getfield 272, 3) := by decide +kernel
theorem dX10_insertPoint_148 : decode cX10_insertPoint 148 = .ok (.lastore, 1) := by decide +kernel
theorem dX10_insertPoint_149 : decode cX10_insertPoint 149 = .ok (.aload_n 0, 1) := by decide +kernel
theorem dX10_insertPoint_150 : decode cX10_insertPoint 150 = .ok (.getfield 93, 3) := by decide +kernel
theorem dX10_insertPoint_153 : decode cX10_insertPoint 153 = .ok (.iload_n 1, 1) := by decide +kernel
theorem dX10_insertPoint_154 : decode cX10_insertPoint 154 = .ok (.aload_n 0, 1) := by decide +kernel
theorem dX10_insertPoint_155 : decode cX10_insertPoint 155 = .ok (.getfield 275, 3) := by decide +kernel
theorem dX10_insertPoint_158 : decode cX10_insertPoint 158 = .ok (.lastore, 1) := by decide +kernel
theorem dX10_insertPoint_159 : decode cX10_insertPoint 159 = .ok (.aload_n 0, 1) := by decide +kernel
theorem dX10_insertPoint_160 : decode cX10_insertPoint 160 = .ok (.getfield 96, 3) := by decide +kernel
theorem dX10_insertPoint_163 : decode cX10_insertPoint 163 = .ok (.iload_n 1, 1) := by decide +kernel
theorem dX10_insertPoint_164 : decode cX10_insertPoint 164 = .ok (.iconst 0, 1) := by decide +kernel
theorem dX10_insertPoint_165 : decode cX10_insertPoint 165 = .ok (.bastore, 1) := by decide +kernel
theorem dX10_insertPoint_166 : decode cX10_insertPoint 166 = .ok (.return_, 1) := by decide +kernel
theorem dX10_know_0 : decode cX10_know 0 = .ok (.aload_n 0, 1) := by decide +kernel
theorem dX10_know_1 : decode cX10_know 1 = .ok (.getfield 96, 3) := by decide +kernel
theorem dX10_know_4 : decode cX10_know 4 = .ok (.iload_n 1, 1) := by decide +kernel
theorem dX10_know_5 : decode cX10_know 5 = .ok (.iconst 1, 1) := by decide +kernel
theorem dX10_know_6 : decode cX10_know 6 = .ok (.bastore, 1) := by decide +kernel
theorem dX10_know_7 : decode cX10_know 7 = .ok (.aload_n 0, 1) := by decide +kernel
theorem dX10_know_8 : decode cX10_know 8 = .ok (.getfield 99, 3) := by decide +kernel
theorem dX10_know_11 : decode cX10_know 11 = .ok (.iload_n 1, 1) := by decide +kernel
theorem dX10_know_12 : decode cX10_know 12 = .ok (.lload_n 2, 1) := by decide +kernel
theorem dX10_know_13 : decode cX10_know 13 = .ok (.lastore, 1) := by decide +kernel
theorem dX10_know_14 : decode cX10_know 14 = .ok (.return_, 1) := by decide +kernel
theorem dX10_split_0 : decode cX10_split 0 = .ok (.aload_n 0, 1) := by decide +kernel
theorem dX10_split_1 : decode cX10_split 1 = .ok (.getfield 93, 3) := by decide +kernel
theorem dX10_split_4 : decode cX10_split 4 = .ok (.iload_n 1, 1) := by decide +kernel
theorem dX10_split_5 : decode cX10_split 5 = .ok (.laload, 1) := by decide +kernel
theorem dX10_split_6 : decode cX10_split 6 = .ok (.aload_n 0, 1) := by decide +kernel
theorem dX10_split_7 : decode cX10_split 7 = .ok (.getfield 93, 3) := by decide +kernel
theorem dX10_split_10 : decode cX10_split 10 = .ok (.iload_n 1, 1) := by decide +kernel
theorem dX10_split_11 : decode cX10_split 11 = .ok (.iconst 1, 1) := by decide +kernel
theorem dX10_split_12 : decode cX10_split 12 = .ok (.iadd, 1) := by decide +kernel
theorem dX10_split_13 : decode cX10_split 13 = .ok (.laload, 1) := by decide +kernel
theorem dX10_split_14 : decode cX10_split 14 = .ok (.lcmp, 1) := by decide +kernel
theorem dX10_split_15 : decode cX10_split 15 = .ok (.ifCond .ne 15, 3) := by decide +kernel
theorem dX10_split_18 : decode cX10_split 18 = .ok (.aload_n 0, 1) := by decide +kernel
theorem dX10_split_19 : decode cX10_split 19 = .ok (.iload_n 1, 1) := by decide +kernel
theorem dX10_split_20 : decode cX10_split 20 = .ok (.aload_n 0, 1) := by decide +kernel
theorem dX10_split_21 : decode cX10_split 21 = .ok (.getfield 93, 3) := by decide +kernel
theorem dX10_split_24 : decode cX10_split 24 = .ok (.iload_n 1, 1) := by decide +kernel
theorem dX10_split_25 : decode cX10_split 25 = .ok (.laload, 1) := by decide +kernel
theorem dX10_split_26 : decode cX10_split 26 = .ok (.invokevirtual 281, 3) := by decide +kernel
theorem dX10_split_29 : decode cX10_split 29 = .ok (.return_, 1) := by decide +kernel
theorem dX10_split_30 : decode cX10_split 30 = .ok (.aload_n 0, 1) := by decide +kernel
theorem dX10_split_31 : decode cX10_split 31 = .ok (.getfield 90, 3) := by decide +kernel
theorem dX10_split_34 : decode cX10_split 34 = .ok (.iload_n 1, 1) := by decide +kernel
theorem dX10_split_35 : decode cX10_split 35 = .ok (.iconst 1, 1) := by decide +kernel
theorem dX10_split_36 : decode cX10_split 36 = .ok (.iadd, 1) := by decide +kernel
theorem dX10_split_37 : decode cX10_split 37 = .ok (.laload, 1) := by decide +kernel
theorem dX10_split_38 : decode cX10_split 38 = .ok (.aload_n 0, 1) := by decide +kernel
theorem dX10_split_39 : decode cX10_split 39 = .ok (.getfield 90, 3) := by decide +kernel
theorem dX10_split_42 : decode cX10_split 42 = .ok (.iload_n 1, 1) := by decide +kernel
theorem dX10_split_43 : decode cX10_split 43 = .ok (.laload, 1) := by decide +kernel
theorem dX10_split_44 : decode cX10_split 44 = .ok (.lsub, 1) := by decide +kernel
theorem dX10_split_45 : decode cX10_split 45 = .ok (.lstore_n 2, 1) := by decide +kernel
theorem dX10_split_46 : decode cX10_split 46 = .ok (.aload_n 0, 1) := by decide +kernel
theorem dX10_split_47 : decode cX10_split 47 = .ok (.getfield 93, 3) := by decide +kernel
theorem dX10_split_50 : decode cX10_split 50 = .ok (.iload_n 1, 1) := by decide +kernel
theorem dX10_split_51 : decode cX10_split 51 = .ok (.laload, 1) := by decide +kernel
theorem dX10_split_52 : decode cX10_split 52 = .ok (.aload_n 0, 1) := by decide +kernel
theorem dX10_split_53 : decode cX10_split 53 = .ok (.getfield 93, 3) := by decide +kernel
theorem dX10_split_56 : decode cX10_split 56 = .ok (.iload_n 1, 1) := by decide +kernel
theorem dX10_split_57 : decode cX10_split 57 = .ok (.iconst 1, 1) := by decide +kernel
theorem dX10_split_58 : decode cX10_split 58 = .ok (.iadd, 1) := by decide +kernel
theorem dX10_split_59 : decode cX10_split 59 = .ok (.laload, 1) := by decide +kernel
theorem dX10_split_60 : decode cX10_split 60 = .ok (.lsub, 1) := by decide +kernel
theorem dX10_split_61 : decode cX10_split 61 = .ok (.lstore 4, 2) := by decide +kernel
theorem dX10_split_63 : decode cX10_split 63 = .ok (.lload_n 2, 1) := by decide +kernel
theorem dX10_split_64 : decode cX10_split 64 = .ok (.lload 4, 2) := by decide +kernel
theorem dX10_split_66 : decode cX10_split 66 = .ok (.iconst 0, 1) := by decide +kernel
theorem dX10_split_67 : decode cX10_split 67 = .ok (.invokestatic 235, 3) := by decide +kernel
theorem dX10_split_70 : decode cX10_split 70 = .ok (.lstore 6, 2) := by decide +kernel
theorem dX10_split_72 : decode cX10_split 72 = .ok (.lload_n 2, 1) := by decide +kernel
theorem dX10_split_73 : decode cX10_split 73 = .ok (.lload 4, 2) := by decide +kernel
theorem dX10_split_75 : decode cX10_split 75 = .ok (.iconst 1, 1) := by decide +kernel
theorem dX10_split_76 : decode cX10_split 76 = .ok (.invokestatic 235, 3) := by decide +kernel
theorem dX10_split_79 : decode cX10_split 79 = .ok (.lstore 8, 2) := by decide +kernel
theorem dX10_split_81 : decode cX10_split 81 = .ok (.lload 6, 2) := by decide +kernel
theorem dX10_split_83 : decode cX10_split 83 = .ok (.aload_n 0, 1) := by decide +kernel
theorem dX10_split_84 : decode cX10_split 84 = .ok (.getfield 87, 3) := by decide +kernel
theorem dX10_split_87 : decode cX10_split 87 = .ok (.iload_n 1, 1) := by decide +kernel
theorem dX10_split_88 : decode cX10_split 88 = .ok (.laload, 1) := by decide +kernel
theorem dX10_split_89 : decode cX10_split 89 = .ok (.lmul, 1) := by decide +kernel
theorem dX10_split_90 : decode cX10_split 90 = .ok (.aload_n 0, 1) := by decide +kernel
theorem dX10_split_91 : decode cX10_split 91 = .ok (.getfield 84, 3) := by decide +kernel
theorem dX10_split_94 : decode cX10_split 94 = .ok (.iload_n 1, 1) := by decide +kernel
theorem dX10_split_95 : decode cX10_split 95 = .ok (.laload, 1) := by decide +kernel
theorem dX10_split_96 : decode cX10_split 96 = .ok (.lload 8, 2) := by decide +kernel
theorem dX10_split_98 : decode cX10_split 98 = .ok (.lmul, 1) := by decide +kernel
theorem dX10_split_99 : decode cX10_split 99 = .ok (.lcmp, 1) := by decide +kernel
theorem dX10_split_100 : decode cX10_split 100 = .ok (.ifCond .ne 7, 3) := by decide +kernel
theorem dX10_split_103 : decode cX10_split 103 = .ok (.iconst 1, 1) := by decide +kernel
theorem dX10_split_104 : decode cX10_split 104 = .ok (.goto 4, 3) := by decide +kernel
theorem dX10_split_107 : decode cX10_split 107 = .ok (.iconst 0, 1) := by decide +kernel
theorem dX10_split_108 : decode cX10_split 108 = .ok (.istore 10, 2) := by decide +kernel
theorem dX10_split_110 : decode cX10_split 110 = .ok (.lload 6, 2) := by decide +kernel
theorem dX10_split_112 : decode cX10_split 112 = .ok (.aload_n 0, 1) := by decide +kernel
theorem dX10_split_113 : decode cX10_split 113 = .ok (.getfield 87, 3) := by decide +kernel
theorem dX10_split_116 : decode cX10_split 116 = .ok (.iload_n 1, 1) := by decide +kernel
theorem dX10_split_117 : decode cX10_split 117 = .ok (.iconst 1, 1) := by decide +kernel
theorem dX10_split_118 : decode cX10_split 118 = .ok (.iadd, 1) := by decide +kernel
theorem dX10_split_119 : decode cX10_split 119 = .ok (.laload, 1) := by decide +kernel
theorem dX10_split_120 : decode cX10_split 120 = .ok (.lmul, 1) := by decide +kernel
theorem dX10_split_121 : decode cX10_split 121 = .ok (.aload_n 0, 1) := by decide +kernel
theorem dX10_split_122 : decode cX10_split 122 = .ok (.getfield 84, 3) := by decide +kernel
theorem dX10_split_125 : decode cX10_split 125 = .ok (.iload_n 1, 1) := by decide +kernel
theorem dX10_split_126 : decode cX10_split 126 = .ok (.iconst 1, 1) := by decide +kernel
theorem dX10_split_127 : decode cX10_split 127 = .ok (.iadd, 1) := by decide +kernel
theorem dX10_split_128 : decode cX10_split 128 = .ok (.laload, 1) := by decide +kernel
theorem dX10_split_129 : decode cX10_split 129 = .ok (.lload 8, 2) := by decide +kernel
theorem dX10_split_131 : decode cX10_split 131 = .ok (.lmul, 1) := by decide +kernel
theorem dX10_split_132 : decode cX10_split 132 = .ok (.lcmp, 1) := by decide +kernel
theorem dX10_split_133 : decode cX10_split 133 = .ok (.ifCond .ne 7, 3) := by decide +kernel
theorem dX10_split_136 : decode cX10_split 136 = .ok (.iconst 1, 1) := by decide +kernel
theorem dX10_split_137 : decode cX10_split 137 = .ok (.goto 4, 3) := by decide +kernel
theorem dX10_split_140 : decode cX10_split 140 = .ok (.iconst 0, 1) := by decide +kernel
theorem dX10_split_141 : decode cX10_split 141 = .ok (.istore 11, 2) := by decide +kernel
theorem dX10_split_143 : decode cX10_split 143 = .ok (.iload 10, 2) := by decide +kernel
theorem dX10_split_145 : decode cX10_split 145 = .ok (.ifCond .ne 8, 3) := by decide +kernel
theorem dX10_split_148 : decode cX10_split 148 = .ok (.iload 11, 2) := by decide +kernel
theorem dX10_split_150 : decode cX10_split 150 = .ok (.ifCond .eq 31, 3) := by decide +kernel
theorem dX10_split_153 : decode cX10_split 153 = .ok (.aload_n 0, 1) := by decide +kernel
theorem dX10_split_154 : decode cX10_split 154 = .ok (.iload_n 1, 1) := by decide +kernel
theorem dX10_split_155 : decode cX10_split 155 = .ok (.iload 10, 2) := by decide +kernel
theorem dX10_split_157 : decode cX10_split 157 = .ok (.ifCond .eq 14, 3) := by decide +kernel
theorem dX10_split_160 : decode cX10_split 160 = .ok (.aload_n 0, 1) := by decide +kernel
theorem dX10_split_161 : decode cX10_split 161 = .ok (.getfield 93, 3) := by decide +kernel
theorem dX10_split_164 : decode cX10_split 164 = .ok (.iload_n 1, 1) := by decide +kernel
theorem dX10_split_165 : decode cX10_split 165 = .ok (.iconst 1, 1) := by decide +kernel
theorem dX10_split_166 : decode cX10_split 166 = .ok (.iadd, 1) := by decide +kernel
theorem dX10_split_167 : decode cX10_split 167 = .ok (.laload, 1) := by decide +kernel
theorem dX10_split_168 : decode cX10_split 168 = .ok (.goto 9, 3) := by decide +kernel
theorem dX10_split_171 : decode cX10_split 171 = .ok (.aload_n 0, 1) := by decide +kernel
theorem dX10_split_172 : decode cX10_split 172 = .ok (.getfield 93, 3) := by decide +kernel
theorem dX10_split_175 : decode cX10_split 175 = .ok (.iload_n 1, 1) := by decide +kernel
theorem dX10_split_176 : decode cX10_split 176 = .ok (.laload, 1) := by decide +kernel
theorem dX10_split_177 : decode cX10_split 177 = .ok (.invokevirtual 281, 3) := by decide +kernel
theorem dX10_split_180 : decode cX10_split 180 = .ok (.return_, 1) := by decide +kernel
theorem dX10_split_181 : decode cX10_split 181 = .ok (.aload_n 0, 1) := by decide +kernel
theorem dX10_split_182 : decode cX10_split 182 = .ok (.lload 6, 2) := by decide +kernel
theorem dX10_split_184 : decode cX10_split 184 = .ok (.lload 8, 2) := by decide +kernel
theorem dX10_split_186 : decode cX10_split 186 = .ok (.invokevirtual 214, 3) := by decide +kernel
theorem dX10_split_189 : decode cX10_split 189 = .ok (.pop, 1) := by decide +kernel
theorem dX10_split_190 : decode cX10_split 190 = .ok (.aload_n 0, 1) := by decide +kernel
theorem dX10_split_191 : decode cX10_split 191 = .ok (.invokevirtual 232, 3) := by decide +kernel
theorem dX10_split_194 : decode cX10_split 194 = .ok (.aload_n 0, 1) := by decide +kernel
theorem dX10_split_195 : decode cX10_split 195 = .ok (.getfield 90, 3) := by decide +kernel
theorem dX10_split_198 : decode cX10_split 198 = .ok (.iload_n 1, 1) := by decide +kernel
theorem dX10_split_199 : decode cX10_split 199 = .ok (.laload, 1) := by decide +kernel
theorem dX10_split_200 : decode cX10_split 200 = .ok (.lload 8, 2) := by decide +kernel
theorem dX10_split_202 : decode cX10_split 202 = .ok (.lmul, 1) := by decide +kernel
theorem dX10_split_203 : decode cX10_split 203 = .ok (.aload_n 0, 1) := by decide +kernel
theorem dX10_split_204 : decode cX10_split 204 = .ok (.getfield 93, 3) := by decide +kernel
theorem dX10_split_207 : decode cX10_split 207 = .ok (.iload_n 1, 1) := by decide +kernel
theorem dX10_split_208 : decode cX10_split 208 = .ok (.laload, 1) := by decide +kernel
theorem dX10_split_209 : decode cX10_split 209 = .ok (.lload 6, 2) := by decide +kernel
theorem dX10_split_211 : decode cX10_split 211 = .ok (.lmul, 1) := by decide +kernel
theorem dX10_split_212 : decode cX10_split 212 = .ok (.ladd, 1) := by decide +kernel
theorem dX10_split_213 : decode cX10_split 213 = .ok (.lcmp, 1) := by decide +kernel
theorem dX10_split_214 : decode cX10_split 214 = .ok (.ifCond .ne 7, 3) := by decide +kernel
theorem dX10_split_217 : decode cX10_split 217 = .ok (.iconst 1, 1) := by decide +kernel
theorem dX10_split_218 : decode cX10_split 218 = .ok (.goto 4, 3) := by decide +kernel
theorem dX10_split_221 : decode cX10_split 221 = .ok (.iconst 0, 1) := by decide +kernel
theorem dX10_split_222 : decode cX10_split 222 = .ok (.istore 12, 2) := by decide +kernel
theorem dX10_split_224 : decode cX10_split 224 = .ok (.aload_n 0, 1) := by decide +kernel
theorem dX10_split_225 : decode cX10_split 225 = .ok (.getfield 93, 3) := by decide +kernel
theorem dX10_split_228 : decode cX10_split 228 = .ok (.iload_n 1, 1) := by decide +kernel
theorem dX10_split_229 : decode cX10_split 229 = .ok (.laload, 1) := by decide +kernel
theorem dX10_split_230 : decode cX10_split 230 = .ok (.lstore 13, 2) := by decide +kernel
theorem dX10_split_232 : decode cX10_split 232 = .ok (.aload_n 0, 1) := by decide +kernel
theorem dX10_split_233 : decode cX10_split 233 = .ok (.getfield 93, 3) := by decide +kernel
theorem dX10_split_236 : decode cX10_split 236 = .ok (.iload_n 1, 1) := by decide +kernel
theorem dX10_split_237 : decode cX10_split 237 = .ok (.iconst 1, 1) := by decide +kernel
theorem dX10_split_238 : decode cX10_split 238 = .ok (.iadd, 1) := by decide +kernel
theorem dX10_split_239 : decode cX10_split 239 = .ok (.laload, 1) := by decide +kernel
theorem dX10_split_240 : decode cX10_split 240 = .ok (.lstore 15, 2) := by decide +kernel
theorem dX10_split_242 : decode cX10_split 242 = .ok (.aload_n 0, 1) := by decide +kernel
theorem dX10_split_243 : decode cX10_split 243 = .ok (.invokevirtual 285, 3) := by decide +kernel
theorem dX10_split_246 : decode cX10_split 246 = .ok (.aload_n 0, 1) := by decide +kernel
theorem dX10_split_247 : decode cX10_split 247 = .ok (.iload_n 1, 1) := by decide +kernel
theorem dX10_split_248 : decode cX10_split 248 = .ok (.iconst 1, 1) := by decide +kernel
theorem dX10_split_249 : decode cX10_split 249 = .ok (.iadd, 1) := by decide +kernel
theorem dX10_split_250 : decode cX10_split 250 = .ok (.lload 6, 2) := by decide +kernel
theorem dX10_split_252 : decode cX10_split 252 = .ok (.lload 8, 2) := by decide +kernel
theorem dX10_split_254 : decode cX10_split 254 = .ok (.invokevirtual 288, 3) := by decide +kernel
theorem dX10_split_257 : decode cX10_split 257 = .ok (.iload 12, 2) := by decide +kernel
theorem dX10_split_259 : decode cX10_split 259 = .ok (.ifCond .eq 19, 3) := by decide +kernel
theorem dX10_split_262 : decode cX10_split 262 = .ok (.aload_n 0, 1) := by decide +kernel
theorem dX10_split_263 : decode cX10_split 263 = .ok (.iload_n 1, 1) := by decide +kernel
theorem dX10_split_264 : decode cX10_split 264 = .ok (.lload 13, 2) := by decide +kernel
theorem dX10_split_266 : decode cX10_split 266 = .ok (.invokevirtual 281, 3) := by decide +kernel
theorem dX10_split_269 : decode cX10_split 269 = .ok (.aload_n 0, 1) := by decide +kernel
theorem dX10_split_270 : decode cX10_split 270 = .ok (.iload_n 1, 1) := by decide +kernel
theorem dX10_split_271 : decode cX10_split 271 = .ok (.iconst 1, 1) := by decide +kernel
theorem dX10_split_272 : decode cX10_split 272 = .ok (.iadd, 1) := by decide +kernel
theorem dX10_split_273 : decode cX10_split 273 = .ok (.lload 15, 2) := by decide +kernel
theorem dX10_split_275 : decode cX10_split 275 = .ok (.invokevirtual 281, 3) := by decide +kernel
theorem dX10_split_278 : decode cX10_split 278 = .ok (.return_, 1) := by decide +kernel
theorem dX10_findFunction_0 : decode cX10_findFunction 0 = .ok (.aload_n 0, 1) := by decide +kernel
theorem dX10_findFunction_1 : decode cX10_findFunction 1 = .ok (.iload_n 1, 1) := by decide +kernel
theorem dX10_findFunction_2 : decode cX10_findFunction 2 = .ok (.i2l, 1) := by decide +kernel
theorem dX10_findFunction_3 : decode cX10_findFunction 3 = .ok (.lconst 1, 1) := by decide +kernel
theorem dX10_findFunction_4 : decode cX10_findFunction 4 = .ok (.invokevirtual 193, 3) := by decide +kernel
theorem dX10_findFunction_7 : decode cX10_findFunction 7 = .ok (.ifCond .eq 13, 3) := by decide +kernel
theorem dX10_findFunction_10 : decode cX10_findFunction 10 = .ok (.aload_n 0, 1) := by decide +kernel
theorem dX10_findFunction_11 : decode cX10_findFunction 11 = .ok (.iload_n 2, 1) := by decide +kernel
theorem dX10_findFunction_12 : decode cX10_findFunction 12 = .ok (.i2l, 1) := by decide +kernel
theorem dX10_findFunction_13 : decode cX10_findFunction 13 = .ok (.lconst 1, 1) := by decide +kernel
theorem dX10_findFunction_14 : decode cX10_findFunction 14 = .ok (.invokevirtual 193, 3) := by decide +kernel
theorem dX10_findFunction_17 : decode cX10_findFunction 17 = .ok (.ifCond .ne 7, 3) := by decide +kernel
theorem dX10_findFunction_20 : decode cX10_findFunction 20 = .ok (.sipush (-10003), 3) := by decide +kernel
theorem dX10_findFunction_23 : decode cX10_findFunction 23 = .ok (.ireturn, 1) := by decide +kernel
theorem dX10_findFunction_24 : decode cX10_findFunction 24 = .ok (.aload_n 0, 1) := by decide +kernel
theorem dX10_findFunction_25 : decode cX10_findFunction 25 = .ok (.iconst 0, 1) := by decide +kernel
theorem dX10_findFunction_26 : decode cX10_findFunction 26 = .ok (.putfield 278, 3) := by decide +kernel
theorem dX10_findFunction_29 : decode cX10_findFunction 29 = .ok (.iconst 0, 1) := by decide +kernel
theorem dX10_findFunction_30 : decode cX10_findFunction 30 = .ok (.istore_n 3, 1) := by decide +kernel
theorem dX10_findFunction_31 : decode cX10_findFunction 31 = .ok (.iload_n 3, 1) := by decide +kernel
theorem dX10_findFunction_32 : decode cX10_findFunction 32 = .ok (.iconst 2, 1) := by decide +kernel
theorem dX10_findFunction_33 : decode cX10_findFunction 33 = .ok (.if_icmp .ge 53, 3) := by decide +kernel
theorem dX10_findFunction_36 : decode cX10_findFunction 36 = .ok (.aload_n 0, 1) := by decide +kernel
theorem dX10_findFunction_37 : decode cX10_findFunction 37 = .ok (.iload_n 3, 1) := by decide +kernel
theorem dX10_findFunction_38 : decode cX10_findFunction 38 = .ok (.ifCond .ne 8, 3) := by decide +kernel
theorem dX10_findFunction_41 : decode cX10_findFunction 41 = .ok (.iload_n 1, 1) := by decide +kernel
theorem dX10_findFunction_42 : decode cX10_findFunction 42 = .ok (.i2l, 1) := by decide +kernel
theorem dX10_findFunction_43 : decode cX10_findFunction 43 = .ok (.goto 5, 3) := by decide +kernel
theorem dX10_findFunction_46 : decode cX10_findFunction 46 = .ok (.iload_n 2, 1) := by decide +kernel
theorem dX10_findFunction_47 : decode cX10_findFunction 47 = .ok (.i2l, 1) := by decide +kernel
theorem dX10_findFunction_48 : decode cX10_findFunction 48 = .ok (.lconst 1, 1) := by decide +kernel
theorem dX10_findFunction_49 : decode cX10_findFunction 49 = .ok (.invokevirtual 214, 3) := by decide +kernel
theorem dX10_findFunction_52 : decode cX10_findFunction 52 = .ok (.ifCond .ge 7, 3) := by decide +kernel
theorem dX10_findFunction_55 : decode cX10_findFunction 55 = .ok (.sipush (-10004), 3) := by decide +kernel
theorem dX10_findFunction_58 : decode cX10_findFunction 58 = .ok (.ireturn, 1) := by decide +kernel
theorem dX10_findFunction_59 : decode cX10_findFunction 59 = .ok (.aload_n 0, 1) := by decide +kernel
theorem dX10_findFunction_60 : decode cX10_findFunction 60 = .ok (.invokevirtual 285, 3) := by decide +kernel
theorem dX10_findFunction_63 : decode cX10_findFunction 63 = .ok (.aload_n 0, 1) := by decide +kernel
theorem dX10_findFunction_64 : decode cX10_findFunction 64 = .ok (.iload_n 3, 1) := by decide +kernel
theorem dX10_findFunction_65 : decode cX10_findFunction 65 = .ok (.iload_n 3, 1) := by decide +kernel
theorem dX10_findFunction_66 : decode cX10_findFunction 66 = .ok (.ifCond .ne 8, 3) := by decide +kernel
theorem dX10_findFunction_69 : decode cX10_findFunction 69 = .ok (.iload_n 1, 1) := by decide +kernel
theorem dX10_findFunction_70 : decode cX10_findFunction 70 = .ok (.i2l, 1) := by decide +kernel
theorem dX10_findFunction_71 : decode cX10_findFunction 71 = .ok (.goto 5, 3) := by decide +kernel
theorem dX10_findFunction_74 : decode cX10_findFunction 74 = .ok (.iload_n 2, 1) := by decide +kernel
theorem dX10_findFunction_75 : decode cX10_findFunction 75 = .ok (.i2l, 1) := by decide +kernel
theorem dX10_findFunction_76 : decode cX10_findFunction 76 = .ok (.lconst 1, 1) := by decide +kernel
theorem dX10_findFunction_77 : decode cX10_findFunction 77 = .ok (.invokevirtual 288, 3) := by decide +kernel
theorem dX10_findFunction_80 : decode cX10_findFunction 80 = .ok (.iinc 3 1, 3) := by decide +kernel
theorem dX10_findFunction_83 : decode cX10_findFunction 83 = .ok (.goto (-52), 3) := by decide +kernel
theorem dX10_findFunction_86 : decode cX10_findFunction 86 = .ok (.iconst 0, 1) := by decide +kernel
theorem dX10_findFunction_87 : decode cX10_findFunction 87 = .ok (.istore_n 3, 1) := by decide +kernel
theorem dX10_findFunction_88 : decode cX10_findFunction 88 = .ok (.iload_n 3, 1) := by decide +kernel
theorem dX10_findFunction_89 : decode cX10_findFunction 89 = .ok (.aload_n 0, 1) := by decide +kernel
theorem dX10_findFunction_90 : decode cX10_findFunction 90 = .ok (.getfield 278, 3) := by decide +kernel
theorem dX10_findFunction_93 : decode cX10_findFunction 93 = .ok (.iconst 1, 1) := by decide +kernel
theorem dX10_findFunction_94 : decode cX10_findFunction 94 = .ok (.isub, 1) := by decide +kernel
theorem dX10_findFunction_95 : decode cX10_findFunction 95 = .ok (.if_icmp .ge 26, 3) := by decide +kernel
theorem dX10_findFunction_98 : decode cX10_findFunction 98 = .ok (.aload_n 0, 1) := by decide +kernel
theorem dX10_findFunction_99 : decode cX10_findFunction 99 = .ok (.getfield 96, 3) := by decide +kernel
theorem dX10_findFunction_102 : decode cX10_findFunction 102 = .ok (.iload_n 3, 1) := by decide +kernel
theorem dX10_findFunction_103 : decode cX10_findFunction 103 = .ok (.baload, 1) := by decide +kernel
theorem dX10_findFunction_104 : decode cX10_findFunction 104 = .ok (.ifCond .eq 9, 3) := by decide +kernel
theorem dX10_findFunction_107 : decode cX10_findFunction 107 = .ok (.iinc 3 1, 3) := by decide +kernel
theorem dX10_findFunction_110 : decode cX10_findFunction 110 = .ok (.goto (-22), 3) := by decide +kernel
theorem dX10_findFunction_113 : decode cX10_findFunction 113 = .ok (.aload_n 0, 1) := by decide +kernel
theorem dX10_findFunction_114 : decode cX10_findFunction 114 = .ok (.iload_n 3, 1) := by decide +kernel
theorem dX10_findFunction_115 : decode cX10_findFunction 115 = .ok (.invokevirtual 292, 3) := by decide +kernel
theorem dX10_findFunction_118 : decode cX10_findFunction 118 = .ok (.goto (-30), 3) := by decide +kernel
theorem dX10_findFunction_121 : decode cX10_findFunction 121 = .ok (.iconst 0, 1) := by decide +kernel
theorem dX10_findFunction_122 : decode cX10_findFunction 122 = .ok (.ireturn, 1) := by decide +kernel
theorem dX10_isBend_0 : decode cX10_isBend 0 = .ok (.iload_n 1, 1) := by decide +kernel
theorem dX10_isBend_1 : decode cX10_isBend 1 = .ok (.ifCond .le 35, 3) := by decide +kernel
theorem dX10_isBend_4 : decode cX10_isBend 4 = .ok (.iload_n 1, 1) := by decide +kernel
theorem dX10_isBend_5 : decode cX10_isBend 5 = .ok (.aload_n 0, 1) := by decide +kernel
theorem dX10_isBend_6 : decode cX10_isBend 6 = .ok (.getfield 278, 3) := by decide +kernel
theorem dX10_isBend_9 : decode cX10_isBend 9 = .ok (.iconst 1, 1) := by decide +kernel
theorem dX10_isBend_10 : decode cX10_isBend 10 = .ok (.isub, 1) := by decide +kernel
theorem dX10_isBend_11 : decode cX10_isBend 11 = .ok (.if_icmp .ge 25, 3) := by decide +kernel
theorem dX10_isBend_14 : decode cX10_isBend 14 = .ok (.aload_n 0, 1) := by decide +kernel
theorem dX10_isBend_15 : decode cX10_isBend 15 = .ok (.getfield 99, 3) := by decide +kernel
theorem dX10_isBend_18 : decode cX10_isBend 18 = .ok (.iload_n 1, 1) := by decide +kernel
theorem dX10_isBend_19 : decode cX10_isBend 19 = .ok (.laload, 1) := by decide +kernel
theorem dX10_isBend_20 : decode cX10_isBend 20 = .ok (.aload_n 0, 1) := by decide +kernel
theorem dX10_isBend_21 : decode cX10_isBend 21 = .ok (.getfield 99, 3) := by decide +kernel
theorem dX10_isBend_24 : decode cX10_isBend 24 = .ok (.iload_n 1, 1) := by decide +kernel
theorem dX10_isBend_25 : decode cX10_isBend 25 = .ok (.iconst 1, 1) := by decide +kernel
theorem dX10_isBend_26 : decode cX10_isBend 26 = .ok (.isub, 1) := by decide +kernel
theorem dX10_isBend_27 : decode cX10_isBend 27 = .ok (.laload, 1) := by decide +kernel
theorem dX10_isBend_28 : decode cX10_isBend 28 = .ok (.lcmp, 1) := by decide +kernel
theorem dX10_isBend_29 : decode cX10_isBend 29 = .ok (.ifCond .eq 7, 3) := by decide +kernel
theorem dX10_isBend_32 : decode cX10_isBend 32 = .ok (.iconst 1, 1) := by decide +kernel
theorem dX10_isBend_33 : decode cX10_isBend 33 = .ok (.goto 4, 3) := by decide +kernel
theorem dX10_isBend_36 : decode cX10_isBend 36 = .ok (.iconst 0, 1) := by decide +kernel
theorem dX10_isBend_37 : decode cX10_isBend 37 = .ok (.ireturn, 1) := by decide +kernel
theorem dX10_isSpan_0 : decode cX10_isSpan 0 = .ok (.iload_n 0, 1) := by decide +kernel
theorem dX10_isSpan_1 : decode cX10_isSpan 1 = .ok (.sipush (-1000), 3) := by decide +kernel
theorem dX10_isSpan_4 : decode cX10_isSpan 4 = .ok (.sipush 1000, 3) := by decide +kernel
theorem dX10_isSpan_7 : decode cX10_isSpan 7 = .ok (.invokestatic 132, 3) := by decide +kernel
theorem dX10_isSpan_10 : decode cX10_isSpan 10 = .ok (.ifCond .eq 20, 3) := by decide +kernel
theorem dX10_isSpan_13 : decode cX10_isSpan 13 = .ok (.iload_n 1, 1) := by decide +kernel
theorem dX10_isSpan_14 : decode cX10_isSpan 14 = .ok (.iload_n 0, 1) := by decide +kernel
theorem dX10_isSpan_15 : decode cX10_isSpan 15 = .ok (.iconst 1, 1) := by decide +kernel
theorem dX10_isSpan_16 : decode cX10_isSpan 16 = .ok (.iadd, 1) := by decide +kernel
theorem dX10_isSpan_17 : decode cX10_isSpan 17 = .ok (.sipush 1000, 3) := by decide +kernel
theorem dX10_isSpan_20 : decode cX10_isSpan 20 = .ok (.invokestatic 132, 3) := by decide +kernel
theorem dX10_isSpan_23 : decode cX10_isSpan 23 = .ok (.ifCond .eq 7, 3) := by decide +kernel
theorem dX10_isSpan_26 : decode cX10_isSpan 26 = .ok (.iconst 1, 1) := by decide +kernel
theorem dX10_isSpan_27 : decode cX10_isSpan 27 = .ok (.goto 4, 3) := by decide +kernel
theorem dX10_isSpan_30 : decode cX10_isSpan 30 = .ok (.iconst 0, 1) := by decide +kernel
theorem dX10_isSpan_31 : decode cX10_isSpan 31 = .ok (.ireturn, 1) := by decide +kernel
theorem dX10_value_0 : decode cX10_value 0 = .ok (.iload_n 1, 1) := by decide +kernel
theorem dX10_value_1 : decode cX10_value 1 = .ok (.iload_n 2, 1) := by decide +kernel
theorem dX10_value_2 : decode cX10_value 2 = .ok (.invokestatic 218, 3) := by decide +kernel
theorem dX10_value_5 : decode cX10_value 5 = .ok (.ifCond .eq 14, 3) := by decide +kernel
theorem dX10_value_8 : decode cX10_value 8 = .ok (.aload_n 0, 1) := by decide +kernel
theorem dX10_value_9 : decode cX10_value 9 = .ok (.iload_n 1, 1) := by decide +kernel
theorem dX10_value_10 : decode cX10_value 10 = .ok (.i2l, 1) := by decide +kernel
theorem dX10_value_11 : decode cX10_value 11 = .ok (.iload_n 2, 1) := by decide +kernel
theorem dX10_value_12 : decode cX10_value 12 = .ok (.i2l, 1) := by decide +kernel
theorem dX10_value_13 : decode cX10_value 13 = .ok (.invokevirtual 214, 3) := by decide +kernel
theorem dX10_value_16 : decode cX10_value 16 = .ok (.ifCond .ge 7, 3) := by decide +kernel
theorem dX10_value_19 : decode cX10_value 19 = .ok (.invokestatic 228, 3) := by decide +kernel
theorem dX10_value_22 : decode cX10_value 22 = .ok (.lreturn, 1) := by decide +kernel
theorem dX10_value_23 : decode cX10_value 23 = .ok (.aload_n 0, 1) := by decide +kernel
theorem dX10_value_24 : decode cX10_value 24 = .ok (.invokevirtual 232, 3) := by decide +kernel
theorem dX10_value_27 : decode cX10_value 27 = .ok (.aload_n 0, 1) := by decide +kernel
theorem dX10_value_28 : decode cX10_value 28 = .ok (.getfield 156, 3) := by decide +kernel
theorem dX10_value_31 : decode cX10_value 31 = .ok (.iload_n 3, 1) := by decide +kernel
theorem dX10_value_32 : decode cX10_value 32 = .ok (.invokestatic 235, 3) := by decide +kernel
theorem dX10_value_35 : decode cX10_value 35 = .ok (.lreturn, 1) := by decide +kernel
theorem dX10_problem_0 : decode cX10_problem 0 = .ok (.iload_n 1, 1) := by decide +kernel
theorem dX10_problem_1 : decode cX10_problem 1 = .ok (.iload_n 2, 1) := by decide +kernel
theorem dX10_problem_2 : decode cX10_problem 2 = .ok (.invokestatic 218, 3) := by decide +kernel
theorem dX10_problem_5 : decode cX10_problem 5 = .ok (.ifCond .ne 7, 3) := by decide +kernel
theorem dX10_problem_8 : decode cX10_problem 8 = .ok (.sipush (-10002), 3) := by decide +kernel
theorem dX10_problem_11 : decode cX10_problem 11 = .ok (.ireturn, 1) := by decide +kernel
theorem dX10_problem_12 : decode cX10_problem 12 = .ok (.aload_n 0, 1) := by decide +kernel
theorem dX10_problem_13 : decode cX10_problem 13 = .ok (.iload_n 1, 1) := by decide +kernel
theorem dX10_problem_14 : decode cX10_problem 14 = .ok (.i2l, 1) := by decide +kernel
theorem dX10_problem_15 : decode cX10_problem 15 = .ok (.iload_n 2, 1) := by decide +kernel
theorem dX10_problem_16 : decode cX10_problem 16 = .ok (.i2l, 1) := by decide +kernel
theorem dX10_problem_17 : decode cX10_problem 17 = .ok (.invokevirtual 214, 3) := by decide +kernel
theorem dX10_problem_20 : decode cX10_problem 20 = .ok (.istore_n 3, 1) := by decide +kernel
theorem dX10_problem_21 : decode cX10_problem 21 = .ok (.iload_n 3, 1) := by decide +kernel
theorem dX10_problem_22 : decode cX10_problem 22 = .ok (.ifCond .ge 7, 3) := by decide +kernel
theorem dX10_problem_25 : decode cX10_problem 25 = .ok (.iload_n 3, 1) := by decide +kernel
theorem dX10_problem_26 : decode cX10_problem 26 = .ok (.goto 6, 3) := by decide +kernel
theorem dX10_problem_29 : decode cX10_problem 29 = .ok (.sipush (-10007), 3) := by decide +kernel
theorem dX10_problem_32 : decode cX10_problem 32 = .ok (.ireturn, 1) := by decide +kernel
theorem dX10_breakpoints_0 : decode cX10_breakpoints 0 = .ok (.iload_n 1, 1) := by decide +kernel
theorem dX10_breakpoints_1 : decode cX10_breakpoints 1 = .ok (.iload_n 2, 1) := by decide +kernel
theorem dX10_breakpoints_2 : decode cX10_breakpoints 2 = .ok (.invokestatic 295, 3) := by decide +kernel
theorem dX10_breakpoints_5 : decode cX10_breakpoints 5 = .ok (.ifCond .ne 7, 3) := by decide +kernel
theorem dX10_breakpoints_8 : decode cX10_breakpoints 8 = .ok (.sipush (-10002), 3) := by decide +kernel
theorem dX10_breakpoints_11 : decode cX10_breakpoints 11 = .ok (.ireturn, 1) := by decide +kernel
theorem dX10_breakpoints_12 : decode cX10_breakpoints 12 = .ok (.aload_n 0, 1) := by decide +kernel
theorem dX10_breakpoints_13 : decode cX10_breakpoints 13 = .ok (.iload_n 1, 1) := by decide +kernel
theorem dX10_breakpoints_14 : decode cX10_breakpoints 14 = .ok (.iload_n 2, 1) := by decide +kernel
theorem dX10_breakpoints_15 : decode cX10_breakpoints 15 = .ok (.invokevirtual 298, 3) := by decide +kernel
theorem dX10_breakpoints_18 : decode cX10_breakpoints 18 = .ok (.istore_n 3, 1) := by decide +kernel
theorem dX10_breakpoints_19 : decode cX10_breakpoints 19 = .ok (.iload_n 3, 1) := by decide +kernel
theorem dX10_breakpoints_20 : decode cX10_breakpoints 20 = .ok (.ifCond .ge 5, 3) := by decide +kernel
theorem dX10_breakpoints_23 : decode cX10_breakpoints 23 = .ok (.iload_n 3, 1) := by decide +kernel
theorem dX10_breakpoints_24 : decode cX10_breakpoints 24 = .ok (.ireturn, 1) := by decide +kernel
theorem dX10_breakpoints_25 : decode cX10_breakpoints 25 = .ok (.iconst 0, 1) := by decide +kernel
theorem dX10_breakpoints_26 : decode cX10_breakpoints 26 = .ok (.istore 4, 2) := by decide +kernel
theorem dX10_breakpoints_28 : decode cX10_breakpoints 28 = .ok (.iconst 0, 1) := by decide +kernel
theorem dX10_breakpoints_29 : decode cX10_breakpoints 29 = .ok (.istore 5, 2) := by decide +kernel
theorem dX10_breakpoints_31 : decode cX10_breakpoints 31 = .ok (.iload 5, 2) := by decide +kernel
theorem dX10_breakpoints_33 : decode cX10_breakpoints 33 = .ok (.aload_n 0, 1) := by decide +kernel
theorem dX10_breakpoints_34 : decode cX10_breakpoints 34 = .ok (.getfield 278, 3) := by decide +kernel
theorem dX10_breakpoints_37 : decode cX10_breakpoints 37 = .ok (.if_icmp .ge 28, 3) := by decide +kernel
theorem dX10_breakpoints_40 : decode cX10_breakpoints 40 = .ok (.iload 4, 2) := by decide +kernel
theorem dX10_breakpoints_42 : decode cX10_breakpoints 42 = .ok (.aload_n 0, 1) := by decide +kernel
theorem dX10_breakpoints_43 : decode cX10_breakpoints 43 = .ok (.iload 5, 2) := by decide +kernel
theorem dX10_breakpoints_45 : decode cX10_breakpoints 45 = .ok (.invokevirtual 301, 3) := by decide +kernel
theorem dX10_breakpoints_48 : decode cX10_breakpoints 48 = .ok (.ifCond .eq 7, 3) := by decide +kernel
theorem dX10_breakpoints_51 : decode cX10_breakpoints 51 = .ok (.iconst 1, 1) := by decide +kernel
theorem dX10_breakpoints_52 : decode cX10_breakpoints 52 = .ok (.goto 4, 3) := by decide +kernel
theorem dX10_breakpoints_55 : decode cX10_breakpoints 55 = .ok (.iconst 0, 1) := by decide +kernel
theorem dX10_breakpoints_56 : decode cX10_breakpoints 56 = .ok (.iadd, 1) := by decide +kernel
theorem dX10_breakpoints_57 : decode cX10_breakpoints 57 = .ok (.istore 4, 2) := by decide +kernel
theorem dX10_breakpoints_59 : decode cX10_breakpoints 59 = .ok (.iinc 5 1, 3) := by decide +kernel
theorem dX10_breakpoints_62 : decode cX10_breakpoints 62 = .ok (.goto (-31), 3) := by decide +kernel
theorem dX10_breakpoints_65 : decode cX10_breakpoints 65 = .ok (.iload 4, 2) := by decide +kernel
theorem dX10_breakpoints_67 : decode cX10_breakpoints 67 = .ok (.ireturn, 1) := by decide +kernel
theorem dX10_breakpoint_0 : decode cX10_breakpoint 0 = .ok (.iload_n 1, 1) := by decide +kernel
theorem dX10_breakpoint_1 : decode cX10_breakpoint 1 = .ok (.iload_n 2, 1) := by decide +kernel
theorem dX10_breakpoint_2 : decode cX10_breakpoint 2 = .ok (.invokestatic 295, 3) := by decide +kernel
theorem dX10_breakpoint_5 : decode cX10_breakpoint 5 = .ok (.ifCond .eq 16, 3) := by decide +kernel
theorem dX10_breakpoint_8 : decode cX10_breakpoint 8 = .ok (.iload_n 3, 1) := by decide +kernel
theorem dX10_breakpoint_9 : decode cX10_breakpoint 9 = .ok (.ifCond .lt 12, 3) := by decide +kernel
theorem dX10_breakpoint_12 : decode cX10_breakpoint 12 = .ok (.aload_n 0, 1) := by decide +kernel
theorem dX10_breakpoint_13 : decode cX10_breakpoint 13 = .ok (.iload_n 1, 1) := by decide +kernel
theorem dX10_breakpoint_14 : decode cX10_breakpoint 14 = .ok (.iload_n 2, 1) := by decide +kernel
theorem dX10_breakpoint_15 : decode cX10_breakpoint 15 = .ok (.invokevirtual 298, 3) := by decide +kernel
theorem dX10_breakpoint_18 : decode cX10_breakpoint 18 = .ok (.ifCond .ge 7, 3) := by decide +kernel
theorem dX10_breakpoint_21 : decode cX10_breakpoint 21 = .ok (.invokestatic 228, 3) := by decide +kernel
theorem dX10_breakpoint_24 : decode cX10_breakpoint 24 = .ok (.lreturn, 1) := by decide +kernel
theorem dX10_breakpoint_25 : decode cX10_breakpoint 25 = .ok (.iconst (-1), 1) := by decide +kernel
theorem dX10_breakpoint_26 : decode cX10_breakpoint 26 = .ok (.istore 5, 2) := by decide +kernel
theorem dX10_breakpoint_28 : decode cX10_breakpoint 28 = .ok (.iconst 0, 1) := by decide +kernel
theorem dX10_breakpoint_29 : decode cX10_breakpoint 29 = .ok (.istore 6, 2) := by decide +kernel
theorem dX10_breakpoint_31 : decode cX10_breakpoint 31 = .ok (.iload 6, 2) := by decide +kernel
theorem dX10_breakpoint_33 : decode cX10_breakpoint 33 = .ok (.aload_n 0, 1) := by decide +kernel
theorem dX10_breakpoint_34 : decode cX10_breakpoint 34 = .ok (.getfield 278, 3) := by decide +kernel
theorem dX10_breakpoint_37 : decode cX10_breakpoint 37 = .ok (.if_icmp .ge 57, 3) := by decide +kernel
theorem dX10_breakpoint_40 : decode cX10_breakpoint 40 = .ok (.iload 5, 2) := by decide +kernel
theorem dX10_breakpoint_42 : decode cX10_breakpoint 42 = .ok (.aload_n 0, 1) := by decide +kernel
theorem dX10_breakpoint_43 : decode cX10_breakpoint 43 = .ok (.iload 6, 2) := by decide +kernel
theorem dX10_breakpoint_45 : decode cX10_breakpoint 45 = .ok (.invokevirtual 301, 3) := by decide +kernel
theorem dX10_breakpoint_48 : decode cX10_breakpoint 48 = .ok (.ifCond .eq 7, 3) := by decide +kernel
theorem dX10_breakpoint_51 : decode cX10_breakpoint 51 = .ok (.iconst 1, 1) := by decide +kernel
theorem dX10_breakpoint_52 : decode cX10_breakpoint 52 = .ok (.goto 4, 3) := by decide +kernel
theorem dX10_breakpoint_55 : decode cX10_breakpoint 55 = .ok (.iconst 0, 1) := by decide +kernel
theorem dX10_breakpoint_56 : decode cX10_breakpoint 56 = .ok (.iadd, 1) := by decide +kernel
theorem dX10_breakpoint_57 : decode cX10_breakpoint 57 = .ok (.istore 5, 2) := by decide +kernel
theorem dX10_breakpoint_59 : decode cX10_breakpoint 59 = .ok (.iload 5, 2) := by decide +kernel
theorem dX10_breakpoint_61 : decode cX10_breakpoint 61 = .ok (.iload_n 3, 1) := by decide +kernel
theorem dX10_breakpoint_62 : decode cX10_breakpoint 62 = .ok (.if_icmp .ne 26, 3) := by decide +kernel
theorem dX10_breakpoint_65 : decode cX10_breakpoint 65 = .ok (.iload 4, 2) := by decide +kernel
theorem dX10_breakpoint_67 : decode cX10_breakpoint 67 = .ok (.ifCond .eq 13, 3) := by decide +kernel
theorem dX10_breakpoint_70 : decode cX10_breakpoint 70 = .ok (.aload_n 0, 1) := by decide +kernel
theorem dX10_breakpoint_71 : decode cX10_breakpoint 71 = .ok (.getfield 87, 3) := by decide +kernel
theorem dX10_breakpoint_74 : decode cX10_breakpoint 74 = .ok (.iload 6, 2) := by decide +kernel
theorem dX10_breakpoint_76 : decode cX10_breakpoint 76 = .ok (.laload, 1) := by decide +kernel
theorem dX10_breakpoint_77 : decode cX10_breakpoint 77 = .ok (.goto 10, 3) := by decide +kernel
theorem dX10_breakpoint_80 : decode cX10_breakpoint 80 = .ok (.aload_n 0, 1) := by decide +kernel
theorem dX10_breakpoint_81 : decode cX10_breakpoint 81 = .ok (.getfield 84, 3) := by decide +kernel
theorem dX10_breakpoint_84 : decode cX10_breakpoint 84 = .ok (.iload 6, 2) := by decide +kernel
theorem dX10_breakpoint_86 : decode cX10_breakpoint 86 = .ok (.laload, 1) := by decide +kernel
theorem dX10_breakpoint_87 : decode cX10_breakpoint 87 = .ok (.lreturn, 1) := by decide +kernel
theorem dX10_breakpoint_88 : decode cX10_breakpoint 88 = .ok (.iinc 6 1, 3) := by decide +kernel
theorem dX10_breakpoint_91 : decode cX10_breakpoint 91 = .ok (.goto (-60), 3) := by decide +kernel
theorem dX10_breakpoint_94 : decode cX10_breakpoint 94 = .ok (.invokestatic 228, 3) := by decide +kernel
theorem dX10_breakpoint_97 : decode cX10_breakpoint 97 = .ok (.lreturn, 1) := by decide +kernel
theorem dX10_slope_0 : decode cX10_slope 0 = .ok (.iload_n 1, 1) := by decide +kernel
theorem dX10_slope_1 : decode cX10_slope 1 = .ok (.iload_n 2, 1) := by decide +kernel
theorem dX10_slope_2 : decode cX10_slope 2 = .ok (.invokestatic 295, 3) := by decide +kernel
theorem dX10_slope_5 : decode cX10_slope 5 = .ok (.ifCond .eq 16, 3) := by decide +kernel
theorem dX10_slope_8 : decode cX10_slope 8 = .ok (.iload_n 3, 1) := by decide +kernel
theorem dX10_slope_9 : decode cX10_slope 9 = .ok (.ifCond .lt 12, 3) := by decide +kernel
theorem dX10_slope_12 : decode cX10_slope 12 = .ok (.aload_n 0, 1) := by decide +kernel
theorem dX10_slope_13 : decode cX10_slope 13 = .ok (.iload_n 1, 1) := by decide +kernel
theorem dX10_slope_14 : decode cX10_slope 14 = .ok (.iload_n 2, 1) := by decide +kernel
theorem dX10_slope_15 : decode cX10_slope 15 = .ok (.invokevirtual 298, 3) := by decide +kernel
theorem dX10_slope_18 : decode cX10_slope 18 = .ok (.ifCond .ge 7, 3) := by decide +kernel
theorem dX10_slope_21 : decode cX10_slope 21 = .ok (.invokestatic 228, 3) := by decide +kernel
theorem dX10_slope_24 : decode cX10_slope 24 = .ok (.lreturn, 1) := by decide +kernel
theorem dX10_slope_25 : decode cX10_slope 25 = .ok (.iconst 0, 1) := by decide +kernel
theorem dX10_slope_26 : decode cX10_slope 26 = .ok (.istore 4, 2) := by decide +kernel
theorem dX10_slope_28 : decode cX10_slope 28 = .ok (.iconst 0, 1) := by decide +kernel
theorem dX10_slope_29 : decode cX10_slope 29 = .ok (.istore 5, 2) := by decide +kernel
theorem dX10_slope_31 : decode cX10_slope 31 = .ok (.iload 5, 2) := by decide +kernel
theorem dX10_slope_33 : decode cX10_slope 33 = .ok (.aload_n 0, 1) := by decide +kernel
theorem dX10_slope_34 : decode cX10_slope 34 = .ok (.getfield 278, 3) := by decide +kernel
theorem dX10_slope_37 : decode cX10_slope 37 = .ok (.iconst 1, 1) := by decide +kernel
theorem dX10_slope_38 : decode cX10_slope 38 = .ok (.isub, 1) := by decide +kernel
theorem dX10_slope_39 : decode cX10_slope 39 = .ok (.if_icmp .ge 42, 3) := by decide +kernel
theorem dX10_slope_42 : decode cX10_slope 42 = .ok (.iload 4, 2) := by decide +kernel
theorem dX10_slope_44 : decode cX10_slope 44 = .ok (.aload_n 0, 1) := by decide +kernel
theorem dX10_slope_45 : decode cX10_slope 45 = .ok (.iload 5, 2) := by decide +kernel
theorem dX10_slope_47 : decode cX10_slope 47 = .ok (.invokevirtual 301, 3) := by decide +kernel
theorem dX10_slope_50 : decode cX10_slope 50 = .ok (.ifCond .eq 7, 3) := by decide +kernel
theorem dX10_slope_53 : decode cX10_slope 53 = .ok (.iconst 1, 1) := by decide +kernel
theorem dX10_slope_54 : decode cX10_slope 54 = .ok (.goto 4, 3) := by decide +kernel
theorem dX10_slope_57 : decode cX10_slope 57 = .ok (.iconst 0, 1) := by decide +kernel
theorem dX10_slope_58 : decode cX10_slope 58 = .ok (.iadd, 1) := by decide +kernel
theorem dX10_slope_59 : decode cX10_slope 59 = .ok (.istore 4, 2) := by decide +kernel
theorem dX10_slope_61 : decode cX10_slope 61 = .ok (.iload 4, 2) := by decide +kernel
theorem dX10_slope_63 : decode cX10_slope 63 = .ok (.iload_n 3, 1) := by decide +kernel
theorem dX10_slope_64 : decode cX10_slope 64 = .ok (.if_icmp .ne 11, 3) := by decide +kernel
theorem dX10_slope_67 : decode cX10_slope 67 = .ok (.aload_n 0, 1) := by decide +kernel
theorem dX10_slope_68 : decode cX10_slope 68 = .ok (.getfield 99, 3) := by decide +kernel
theorem dX10_slope_71 : decode cX10_slope 71 = .ok (.iload 5, 2) := by decide +kernel
theorem dX10_slope_73 : decode cX10_slope 73 = .ok (.laload, 1) := by decide +kernel
theorem dX10_slope_74 : decode cX10_slope 74 = .ok (.lreturn, 1) := by decide +kernel
theorem dX10_slope_75 : decode cX10_slope 75 = .ok (.iinc 5 1, 3) := by decide +kernel
theorem dX10_slope_78 : decode cX10_slope 78 = .ok (.goto (-47), 3) := by decide +kernel
theorem dX10_slope_81 : decode cX10_slope 81 = .ok (.invokestatic 228, 3) := by decide +kernel
theorem dX10_slope_84 : decode cX10_slope 84 = .ok (.lreturn, 1) := by decide +kernel
end
section
-- the classes whose objects the worlds hold; the classes of arrays
abbrev pf_cls : List vw_C := [(RX0, TX0, 8), (RX1, TX1, 10), (RX2, TX2, 8), (RX3, TX3, 4), (RX4, TX4, 2), (RX5, TX5, 10), (RX6, TX6, 6), (RX7, TX7, 9), (RX8, TX8, 8), (RX9, TX9, 5), (RX10, TX10, 48), (RJx4a65c, TJx4a65c, 3)]
abbrev pf_ty (cI cJ cZ cO : ClassId) : List (ClassId × FieldType) := [(cI, .int), (cJ, .long), (cZ, .boolean), (cO, .object "java/lang/Object")]
section PFB
variable {p : Program} {l : Launch} {e : Env} {R : Room} {s : State} {m : MethodId} {args : Array Value} {below : List Frame} {meth : Method} {c : Code} {H : Heap} {locs : List Loc} {cells slots : Nat} {Q : State → Prop}
variable {cc : ByteArray} {pc : Nat} {ls : Array Slot} {rest : List Value} {A : Nat → Prop} {H0 : Heap} {D : va_G} {cl : List vw_C} {tys : List (ClassId × FieldType)} {ws : va_W} {a : Nat}
theorem pf_topi {x v : Int32} (h : x = v) (k : W p l e R s m args below meth c H locs cells slots Q (F0 m pc ls (.int v :: rest))) : W p l e R s m args below meth c H locs cells slots Q (F0 m pc ls (.int x :: rest)) := by subst h; exact k
theorem pf_topl {x v : Int64} (h : x = v) (k : W p l e R s m args below meth c H locs cells slots Q (F0 m pc ls (.long v :: rest))) : W p l e R s m args below meth c H locs cells slots Q (F0 m pc ls (.long x :: rest)) := by subst h; exact k
theorem pf_vpin {i : Int32} {n k : Nat} (h0 : ¬ i < 0) (hk : i.toNatClampNeg = k) (hn : k < n) : vp_in i n := by
  intro q
  rcases q with q | q
  · exact h0 q
  · omega
theorem pf_iald (hexec : p.tables.exec = Jvm.exec) (hb : c.code = cc) (hK : va_K D cl tys s) (hP : va_P D cl ws H) (q0 t0 k : Nat) {cA : ClassId} {n : Nat} {f : Nat → Int32} (ha : ws[q0]? = some (a, .inl (cA, n, .inl f))) (ht : tys[t0]? = some (cA, .int)) {i v : Int32} (h0 : ¬ i < 0) (hk : i.toNatClampNeg = k) (hn : k < n) (hv : f k = v) (hdg : decode cc pc = .ok (.iaload, 1))
    (kk : W p l e R s m args below meth c H locs cells slots Q (F0 m (pc + 1) ls (.int v :: rest))) : W p l e R s m args below meth c H locs cells slots Q (F0 m pc ls (.int i :: .ref a :: rest)) := by
  refine va_iald hexec hb hK hP q0 t0 ha ht (pf_vpin h0 hk hn) hdg ?_
  rw [hk, hv]; exact kk
theorem pf_zald (hexec : p.tables.exec = Jvm.exec) (hb : c.code = cc) (hK : va_K D cl tys s) (hP : va_P D cl ws H) (q0 t0 k : Nat) {cA : ClassId} {n : Nat} {f : Nat → Int32} (ha : ws[q0]? = some (a, .inl (cA, n, .inl f))) (ht : tys[t0]? = some (cA, .boolean)) {i v : Int32} (h0 : ¬ i < 0) (hk : i.toNatClampNeg = k) (hn : k < n) (hv : f k = v) (hdg : decode cc pc = .ok (.baload, 1))
    (kk : W p l e R s m args below meth c H locs cells slots Q (F0 m (pc + 1) ls (.int v :: rest))) : W p l e R s m args below meth c H locs cells slots Q (F0 m pc ls (.int i :: .ref a :: rest)) := by
  refine va_zald hexec hb hK hP q0 t0 ha ht (pf_vpin h0 hk hn) hdg ?_
  rw [hk, hv]; exact kk
theorem pf_lald (hexec : p.tables.exec = Jvm.exec) (hb : c.code = cc) (hK : va_K D cl tys s) (hP : va_P D cl ws H) (q0 t0 k : Nat) {cA : ClassId} {n : Nat} {f : Nat → Int64} (ha : ws[q0]? = some (a, .inl (cA, n, .inr (.inl f)))) (ht : tys[t0]? = some (cA, .long)) {i : Int32} {v : Int64} (h0 : ¬ i < 0) (hk : i.toNatClampNeg = k) (hn : k < n) (hv : f k = v) (hdg : decode cc pc = .ok (.laload, 1))
    (kk : W p l e R s m args below meth c H locs cells slots Q (F0 m (pc + 1) ls (.long v :: rest))) : W p l e R s m args below meth c H locs cells slots Q (F0 m pc ls (.int i :: .ref a :: rest)) := by
  refine va_lald hexec hb hK hP q0 t0 ha ht (pf_vpin h0 hk hn) hdg ?_
  rw [hk, hv]; exact kk
theorem pf_iast (hexec : p.tables.exec = Jvm.exec) (hb : c.code = cc) (hK : va_K D cl tys s) (hP : va_P D cl ws H) (hD : va_D A ws) (hS : va_S A H0 H locs) (q0 t0 k : Nat) {cA : ClassId} {n : Nat} {f : Nat → Int32} (ha : ws[q0]? = some (a, .inl (cA, n, .inl f))) (ht : tys[t0]? = some (cA, .int)) {i x : Int32} (h0 : ¬ i < 0) (hk : i.toNatClampNeg = k) (hn : k < n) (hdg : decode cc pc = .ok (.iastore, 1))
    (kk : ∀ (H1 : Heap) (locs1 : List Loc), va_P D cl (ws.set q0 (a, .inl (cA, n, .inl (upd f k x)))) H1 → va_D A (ws.set q0 (a, .inl (cA, n, .inl (upd f k x)))) → va_S A H0 H1 locs1 → W p l e R s m args below meth c H1 locs1 cells slots Q (F0 m (pc + 1) ls rest)) : W p l e R s m args below meth c H locs cells slots Q (F0 m pc ls (.int x :: .int i :: .ref a :: rest)) := by
  refine va_iast hexec hb hK hP hD hS q0 t0 ha ht (pf_vpin h0 hk hn) hdg ?_
  rw [hk]; exact kk
theorem pf_zast (hexec : p.tables.exec = Jvm.exec) (hb : c.code = cc) (hK : va_K D cl tys s) (hP : va_P D cl ws H) (hD : va_D A ws) (hS : va_S A H0 H locs) (q0 t0 k : Nat) {cA : ClassId} {n : Nat} {f : Nat → Int32} (ha : ws[q0]? = some (a, .inl (cA, n, .inl f))) (ht : tys[t0]? = some (cA, .boolean)) {i x : Int32} (h0 : ¬ i < 0) (hk : i.toNatClampNeg = k) (hn : k < n) (hx : vp_nar .boolean x = x) (hdg : decode cc pc = .ok (.bastore, 1))
    (kk : ∀ (H1 : Heap) (locs1 : List Loc), va_P D cl (ws.set q0 (a, .inl (cA, n, .inl (upd f k x)))) H1 → va_D A (ws.set q0 (a, .inl (cA, n, .inl (upd f k x)))) → va_S A H0 H1 locs1 → W p l e R s m args below meth c H1 locs1 cells slots Q (F0 m (pc + 1) ls rest)) : W p l e R s m args below meth c H locs cells slots Q (F0 m pc ls (.int x :: .int i :: .ref a :: rest)) := by
  refine va_zast hexec hb hK hP hD hS q0 t0 ha ht (pf_vpin h0 hk hn) hdg ?_
  rw [hk, hx]; exact kk
theorem pf_last (hexec : p.tables.exec = Jvm.exec) (hb : c.code = cc) (hK : va_K D cl tys s) (hP : va_P D cl ws H) (hD : va_D A ws) (hS : va_S A H0 H locs) (q0 t0 k : Nat) {cA : ClassId} {n : Nat} {f : Nat → Int64} (ha : ws[q0]? = some (a, .inl (cA, n, .inr (.inl f)))) (ht : tys[t0]? = some (cA, .long)) {i : Int32} {x : Int64} (h0 : ¬ i < 0) (hk : i.toNatClampNeg = k) (hn : k < n) (hdg : decode cc pc = .ok (.lastore, 1))
    (kk : ∀ (H1 : Heap) (locs1 : List Loc), va_P D cl (ws.set q0 (a, .inl (cA, n, .inr (.inl (vp_updL f k x))))) H1 → va_D A (ws.set q0 (a, .inl (cA, n, .inr (.inl (vp_updL f k x))))) → va_S A H0 H1 locs1 → W p l e R s m args below meth c H1 locs1 cells slots Q (F0 m (pc + 1) ls rest)) : W p l e R s m args below meth c H locs cells slots Q (F0 m pc ls (.long x :: .int i :: .ref a :: rest)) := by
  refine va_last hexec hb hK hP hD hS q0 t0 ha ht (pf_vpin h0 hk hn) hdg ?_
  rw [hk]; exact kk
theorem pf_newI (hexec : p.tables.exec = Jvm.exec) (hb : c.code = cc) (harr : (Cond.arrayClass .int).before args s = true) (hK : va_K D cl tys s) (hP : va_P D cl ws H) (hD : va_D A ws) (hS : va_S A H0 H locs) (hA : ∀ q, H0.size ≤ q → A q) (t0 : Nat) {cA : ClassId} (ht : tys[t0]? = some (cA, .int))
    {n : Int32} {N' : Nat} (hn : ¬ n < 0) (hN : n.toNatClampNeg = N') (hbytes : N' * 4 ≤ 536870912) (hcells : cells + 1 ≤ R.cells) (hslots : slots + N' ≤ R.slots) (hdg : decode cc pc = .ok (.newarray .int, 2))
    (kk : ∀ (q : Nat) (H1 : Heap), va_P D cl (ws ++ [(q, .inl (cA, N', .inl (fun _ => 0)))]) H1 → va_D A (ws ++ [(q, .inl (cA, N', .inl (fun _ => 0)))]) → va_S A H0 H1 locs → W p l e R s m args below meth c H1 locs (cells + 1) (slots + N') Q (F0 m (pc + 2) ls (.ref q :: rest))) : W p l e R s m args below meth c H locs cells slots Q (F0 m pc ls (.int n :: rest)) := by
  refine va_newa (atype := .int) (ty := .int) (a0 := (N', .inl fun _ => 0)) hexec hb harr rfl hK hP hD hS hA (fun _ => rfl) hn hN hbytes hcells hslots hdg (fun q cB H1 hK1 hP1 hD1 hS1 => ?_)
  have h1 := (hK1.2 tys.length (cB, .int) (by simp)).2
  have h2 := (hK.2 t0 _ ht).2
  have e0 : cB = cA := Option.some.inj (h1.symm.trans h2)
  subst e0
  exact kk q H1 hP1 hD1 hS1
theorem pf_newJ (hexec : p.tables.exec = Jvm.exec) (hb : c.code = cc) (harr : (Cond.arrayClass .long).before args s = true) (hK : va_K D cl tys s) (hP : va_P D cl ws H) (hD : va_D A ws) (hS : va_S A H0 H locs) (hA : ∀ q, H0.size ≤ q → A q) (t0 : Nat) {cA : ClassId} (ht : tys[t0]? = some (cA, .long))
    {n : Int32} {N' : Nat} (hn : ¬ n < 0) (hN : n.toNatClampNeg = N') (hbytes : N' * 8 ≤ 536870912) (hcells : cells + 1 ≤ R.cells) (hslots : slots + N' ≤ R.slots) (hdg : decode cc pc = .ok (.newarray .long, 2))
    (kk : ∀ (q : Nat) (H1 : Heap), va_P D cl (ws ++ [(q, .inl (cA, N', .inr (.inl (fun _ => 0))))]) H1 → va_D A (ws ++ [(q, .inl (cA, N', .inr (.inl (fun _ => 0))))]) → va_S A H0 H1 locs → W p l e R s m args below meth c H1 locs (cells + 1) (slots + N') Q (F0 m (pc + 2) ls (.ref q :: rest))) : W p l e R s m args below meth c H locs cells slots Q (F0 m pc ls (.int n :: rest)) := by
  refine va_newa (atype := .long) (ty := .long) (a0 := (N', .inr (.inl fun _ => 0))) hexec hb harr rfl hK hP hD hS hA (fun _ => rfl) hn hN hbytes hcells hslots hdg (fun q cB H1 hK1 hP1 hD1 hS1 => ?_)
  have h1 := (hK1.2 tys.length (cB, .long) (by simp)).2
  have h2 := (hK.2 t0 _ ht).2
  have e0 : cB = cA := Option.some.inj (h1.symm.trans h2)
  subst e0
  exact kk q H1 hP1 hD1 hS1
theorem pf_newZ (hexec : p.tables.exec = Jvm.exec) (hb : c.code = cc) (harr : (Cond.arrayClass .boolean).before args s = true) (hK : va_K D cl tys s) (hP : va_P D cl ws H) (hD : va_D A ws) (hS : va_S A H0 H locs) (hA : ∀ q, H0.size ≤ q → A q) (t0 : Nat) {cA : ClassId} (ht : tys[t0]? = some (cA, .boolean))
    {n : Int32} {N' : Nat} (hn : ¬ n < 0) (hN : n.toNatClampNeg = N') (hbytes : N' * 1 ≤ 536870912) (hcells : cells + 1 ≤ R.cells) (hslots : slots + N' ≤ R.slots) (hdg : decode cc pc = .ok (.newarray .boolean, 2))
    (kk : ∀ (q : Nat) (H1 : Heap), va_P D cl (ws ++ [(q, .inl (cA, N', .inl (fun _ => 0)))]) H1 → va_D A (ws ++ [(q, .inl (cA, N', .inl (fun _ => 0)))]) → va_S A H0 H1 locs → W p l e R s m args below meth c H1 locs (cells + 1) (slots + N') Q (F0 m (pc + 2) ls (.ref q :: rest))) : W p l e R s m args below meth c H locs cells slots Q (F0 m pc ls (.int n :: rest)) := by
  refine va_newa (atype := .boolean) (ty := .boolean) (a0 := (N', .inl fun _ => 0)) hexec hb harr rfl hK hP hD hS hA (fun _ => rfl) hn hN hbytes hcells hslots hdg (fun q cB H1 hK1 hP1 hD1 hS1 => ?_)
  have h1 := (hK1.2 tys.length (cB, .boolean) (by simp)).2
  have h2 := (hK.2 t0 _ ht).2
  have e0 : cB = cA := Option.some.inj (h1.symm.trans h2)
  subst e0
  exact kk q H1 hP1 hD1 hS1
end PFB
end
section
theorem pf_Pn {D : va_G} {cl : List vw_C} {H : Heap} : va_P D cl [] H := fun k q h => by simp at h
theorem pf_Dn {A : Nat → Prop} : va_D A [] := ⟨fun i j p q h => by simp at h, fun k q h => by simp at h⟩
theorem pf_cmp_self (x : Int64) : lg_cmp x x = 0 := by simp [lg_cmp]
theorem pf_toInt0 : (0 : Int64).toInt = 0 := by decide +kernel
theorem pf_ldiv_self {x : Int64} (h : ¬ x = 0) : x / x = 1 := by
  have h1 : ¬ x.toInt = 0 := fun q => h (Int64.toInt_inj.mp (q.trans pf_toInt0.symm))
  apply Int64.toInt_inj.mp
  rw [Int64.toInt_div, Int.tdiv_self h1]
  decide +kernel
/-- least and greatest: the answer of a test whether x lies between -/
def pf_in (x a b : Int32) : Int32 := if x < a then 0 else if b < x then 0 else 1
def pf_par (p q : Int32) : Int32 := if pf_in p (-10000) 10000 = 0 then 0 else if pf_in q 1 1000 = 0 then 0 else 1
def pf_itv (lo hi : Int32) : Int32 := if pf_in lo (-1000) 1000 = 0 then 0 else if hi ≤ lo then 0 else if 1000 < hi then 0 else 1
def pf_spn (lo hi : Int32) : Int32 := if pf_in lo (-1000) 1000 = 0 then 0 else if pf_in hi (lo + 1) 1000 = 0 then 0 else 1
def pf_nn (v : Int32) : Int32 := if pf_in v 0 1 = 0 then 1 else 0
def pf_hn (v : Int32) : Int32 := if v < 0 then 0 else if 2 ≤ v then 0 else 1
theorem fs_X0 : ∀ j, j < 8 → defaultValue (tyX0 j) = vp_V [.int 0, .int 0, .null, .null, .null, .null, .null, .null] j := by
  intro j hj
  match j, hj with
  | 0, _ => rfl
  | 1, _ => rfl
  | 2, _ => rfl
  | 3, _ => rfl
  | 4, _ => rfl
  | 5, _ => rfl
  | 6, _ => rfl
  | 7, _ => rfl
  | n + 8, h => exact absurd h (by omega)
theorem fs_X1 : ∀ j, j < 10 → defaultValue (tyX1 j) = vp_V [.int 0, .int 0, .int 0, .int 0, .null, .null, .null, .null, .null, .int 0] j := by
  intro j hj
  match j, hj with
  | 0, _ => rfl
  | 1, _ => rfl
  | 2, _ => rfl
  | 3, _ => rfl
  | 4, _ => rfl
  | 5, _ => rfl
  | 6, _ => rfl
  | 7, _ => rfl
  | 8, _ => rfl
  | 9, _ => rfl
  | n + 10, h => exact absurd h (by omega)
theorem fs_X2 : ∀ j, j < 8 → defaultValue (tyX2 j) = vp_V [.int 0, .int 0, .int 0, .int 0, .int 0, .long 0, .int 0, .int 0] j := by
  intro j hj
  match j, hj with
  | 0, _ => rfl
  | 1, _ => rfl
  | 2, _ => rfl
  | 3, _ => rfl
  | 4, _ => rfl
  | 5, _ => rfl
  | 6, _ => rfl
  | 7, _ => rfl
  | n + 8, h => exact absurd h (by omega)
theorem fs_X3 : ∀ j, j < 4 → defaultValue (tyX3 j) = vp_V [.long 0, .long 0, .long 0, .long 0] j := by
  intro j hj
  match j, hj with
  | 0, _ => rfl
  | 1, _ => rfl
  | 2, _ => rfl
  | 3, _ => rfl
  | n + 4, h => exact absurd h (by omega)
theorem fs_X4 : ∀ j, j < 2 → defaultValue (tyX4 j) = vp_V [.int 0, .null] j := by
  intro j hj
  match j, hj with
  | 0, _ => rfl
  | 1, _ => rfl
  | n + 2, h => exact absurd h (by omega)
theorem fs_X5 : ∀ j, j < 10 → defaultValue (tyX5 j) = vp_V [.int 0, .int 0, .int 0, .null, .null, .null, .null, .null, .null, .null] j := by
  intro j hj
  match j, hj with
  | 0, _ => rfl
  | 1, _ => rfl
  | 2, _ => rfl
  | 3, _ => rfl
  | 4, _ => rfl
  | 5, _ => rfl
  | 6, _ => rfl
  | 7, _ => rfl
  | 8, _ => rfl
  | 9, _ => rfl
  | n + 10, h => exact absurd h (by omega)
theorem fs_X6 : ∀ j, j < 6 → defaultValue (tyX6 j) = vp_V [.int 0, .int 0, .long 0, .long 0, .long 0, .long 0] j := by
  intro j hj
  match j, hj with
  | 0, _ => rfl
  | 1, _ => rfl
  | 2, _ => rfl
  | 3, _ => rfl
  | 4, _ => rfl
  | 5, _ => rfl
  | n + 6, h => exact absurd h (by omega)
theorem fs_X7 : ∀ j, j < 9 → defaultValue (tyX7 j) = vp_V [.int 0, .long 0, .long 0, .null, .null, .null, .null, .null, .null] j := by
  intro j hj
  match j, hj with
  | 0, _ => rfl
  | 1, _ => rfl
  | 2, _ => rfl
  | 3, _ => rfl
  | 4, _ => rfl
  | 5, _ => rfl
  | 6, _ => rfl
  | 7, _ => rfl
  | 8, _ => rfl
  | n + 9, h => exact absurd h (by omega)
theorem fs_X8 : ∀ j, j < 8 → defaultValue (tyX8 j) = vp_V [.int 0, .null, .null, .null, .null, .null, .null, .null] j := by
  intro j hj
  match j, hj with
  | 0, _ => rfl
  | 1, _ => rfl
  | 2, _ => rfl
  | 3, _ => rfl
  | 4, _ => rfl
  | 5, _ => rfl
  | 6, _ => rfl
  | 7, _ => rfl
  | n + 8, h => exact absurd h (by omega)
theorem fs_X9 : ∀ j, j < 5 → defaultValue (tyX9 j) = vp_V [.null, .null, .null, .null, .int 0] j := by
  intro j hj
  match j, hj with
  | 0, _ => rfl
  | 1, _ => rfl
  | 2, _ => rfl
  | 3, _ => rfl
  | 4, _ => rfl
  | n + 5, h => exact absurd h (by omega)
theorem fs_X10 : ∀ j, j < 48 → defaultValue (tyX10 j) = vp_V [.int 0, .int 0, .int 0, .null, .null, .null, .null, .null, .null, .null, .int 0, .null, .null, .null, .null, .null, .null, .null, .null, .null, .null, .null, .long 0, .int 0, .null, .null, .int 0, .null, .null, .int 0, .int 0, .int 0, .long 0, .long 0, .int 0, .long 0, .long 0, .null, .null, .int 0, .null, .null, .null, .null, .null, .null, .long 0, .long 0] j := by
  intro j hj
  match j, hj with
  | 0, _ => rfl
  | 1, _ => rfl
  | 2, _ => rfl
  | 3, _ => rfl
  | 4, _ => rfl
  | 5, _ => rfl
  | 6, _ => rfl
  | 7, _ => rfl
  | 8, _ => rfl
  | 9, _ => rfl
  | 10, _ => rfl
  | 11, _ => rfl
  | 12, _ => rfl
  | 13, _ => rfl
  | 14, _ => rfl
  | 15, _ => rfl
  | 16, _ => rfl
  | 17, _ => rfl
  | 18, _ => rfl
  | 19, _ => rfl
  | 20, _ => rfl
  | 21, _ => rfl
  | 22, _ => rfl
  | 23, _ => rfl
  | 24, _ => rfl
  | 25, _ => rfl
  | 26, _ => rfl
  | 27, _ => rfl
  | 28, _ => rfl
  | 29, _ => rfl
  | 30, _ => rfl
  | 31, _ => rfl
  | 32, _ => rfl
  | 33, _ => rfl
  | 34, _ => rfl
  | 35, _ => rfl
  | 36, _ => rfl
  | 37, _ => rfl
  | 38, _ => rfl
  | 39, _ => rfl
  | 40, _ => rfl
  | 41, _ => rfl
  | 42, _ => rfl
  | 43, _ => rfl
  | 44, _ => rfl
  | 45, _ => rfl
  | 46, _ => rfl
  | 47, _ => rfl
  | n + 48, h => exact absurd h (by omega)
theorem fs_Jx4a65c : ∀ j, j < 3 → defaultValue (tyJx4a65c j) = vp_V [.int 0, .null, .int 0] j := by
  intro j hj
  match j, hj with
  | 0, _ => rfl
  | 1, _ => rfl
  | 2, _ => rfl
  | n + 3, h => exact absurd h (by omega)
end
section
theorem mw_X4_init_0 : (Cond.methodLink RX4 3 objectInit : Cond) ∈ wsX4_init := List.mem_cons_of_mem _ (List.mem_append_left _ (List.mem_of_getElem? (i := 0) rfl))
theorem mw_X4_init_1 : (Cond.instanceMethod objectInit : Cond) ∈ wsX4_init := List.mem_cons_of_mem _ (List.mem_append_left _ (List.mem_of_getElem? (i := 1) rfl))
theorem mw_X4_init_2 : (Cond.code objectInit ⟨#[0xb1]⟩ 1 none : Cond) ∈ wsX4_init := List.mem_cons_of_mem _ (List.mem_append_left _ (List.mem_of_getElem? (i := 2) rfl))
theorem mw_X4_init_3 : (Cond.arrayClass .long : Cond) ∈ wsX4_init := List.mem_cons_of_mem _ (List.mem_append_left _ (List.mem_of_getElem? (i := 3) rfl))
theorem ic_X4_init_X4 : ∀ w ∈ wsX40, w ∈ wsX4_init := fun _ h => List.mem_cons_of_mem _ (List.mem_append_right _ h)
theorem mw_X4_init_4 : (Cond.fieldLink RX4 9 "ParametricFlow$Longs" "items" "[J" : Cond) ∈ wsX4_init := List.mem_cons_of_mem _ (List.mem_append_left _ (List.mem_of_getElem? (i := 4) rfl))
theorem ic_X4_clear_X4 : ∀ w ∈ wsX40, w ∈ wsX4_clear := fun _ h => List.mem_cons_of_mem _ (List.mem_append_right _ h)
theorem mw_X4_clear_0 : (Cond.fieldLink RX4 15 "ParametricFlow$Longs" "size" "I" : Cond) ∈ wsX4_clear := List.mem_cons_of_mem _ (List.mem_append_left _ (List.mem_of_getElem? (i := 0) rfl))
theorem ic_X4_add_X4 : ∀ w ∈ wsX40, w ∈ wsX4_add := fun _ h => List.mem_cons_of_mem _ (List.mem_append_right _ h)
theorem mw_X4_add_0 : (Cond.fieldLink RX4 15 "ParametricFlow$Longs" "size" "I" : Cond) ∈ wsX4_add := List.mem_cons_of_mem _ (List.mem_append_left _ (List.mem_of_getElem? (i := 0) rfl))
theorem mw_X4_add_1 : (Cond.fieldLink RX4 9 "ParametricFlow$Longs" "items" "[J" : Cond) ∈ wsX4_add := List.mem_cons_of_mem _ (List.mem_append_left _ (List.mem_of_getElem? (i := 1) rfl))
theorem mw_X3_init_0 : (Cond.methodLink RX3 3 objectInit : Cond) ∈ wsX3_init := List.mem_cons_of_mem _ (List.mem_append_left _ (List.mem_of_getElem? (i := 0) rfl))
theorem mw_X3_init_1 : (Cond.instanceMethod objectInit : Cond) ∈ wsX3_init := List.mem_cons_of_mem _ (List.mem_append_left _ (List.mem_of_getElem? (i := 1) rfl))
theorem mw_X3_init_2 : (Cond.code objectInit ⟨#[0xb1]⟩ 1 none : Cond) ∈ wsX3_init := List.mem_cons_of_mem _ (List.mem_append_left _ (List.mem_of_getElem? (i := 2) rfl))
theorem ic_X3_init_X3 : ∀ w ∈ wsX30, w ∈ wsX3_init := fun _ h => List.mem_cons_of_mem _ (List.mem_append_right _ h)
theorem mw_X3_init_3 : (Cond.fieldLink RX3 9 "ParametricFlow$Line" "q" "J" : Cond) ∈ wsX3_init := List.mem_cons_of_mem _ (List.mem_append_left _ (List.mem_of_getElem? (i := 3) rfl))
theorem mw_X6_init_0 : (Cond.methodLink RX6 1 objectInit : Cond) ∈ wsX6_init := List.mem_cons_of_mem _ (List.mem_append_left _ (List.mem_of_getElem? (i := 0) rfl))
theorem mw_X6_init_1 : (Cond.instanceMethod objectInit : Cond) ∈ wsX6_init := List.mem_cons_of_mem _ (List.mem_append_left _ (List.mem_of_getElem? (i := 1) rfl))
theorem mw_X6_init_2 : (Cond.code objectInit ⟨#[0xb1]⟩ 1 none : Cond) ∈ wsX6_init := List.mem_cons_of_mem _ (List.mem_append_left _ (List.mem_of_getElem? (i := 2) rfl))
theorem ic_X6_init_X6 : ∀ w ∈ wsX60, w ∈ wsX6_init := fun _ h => List.mem_cons_of_mem _ (List.mem_append_right _ h)
theorem mw_X6_init_3 : (Cond.fieldLink RX6 7 "ParametricFlow$Range" "lowerBottom" "J" : Cond) ∈ wsX6_init := List.mem_cons_of_mem _ (List.mem_append_left _ (List.mem_of_getElem? (i := 3) rfl))
theorem mw_X6_init_4 : (Cond.fieldLink RX6 13 "ParametricFlow$Range" "upperBottom" "J" : Cond) ∈ wsX6_init := List.mem_cons_of_mem _ (List.mem_append_left _ (List.mem_of_getElem? (i := 4) rfl))
theorem mw_X2_init_0 : (Cond.methodLink RX2 3 objectInit : Cond) ∈ wsX2_init := List.mem_cons_of_mem _ (List.mem_of_getElem? (i := 0) rfl)
theorem mw_X2_init_1 : (Cond.instanceMethod objectInit : Cond) ∈ wsX2_init := List.mem_cons_of_mem _ (List.mem_of_getElem? (i := 1) rfl)
theorem mw_X2_init_2 : (Cond.code objectInit ⟨#[0xb1]⟩ 1 none : Cond) ∈ wsX2_init := List.mem_cons_of_mem _ (List.mem_of_getElem? (i := 2) rfl)
theorem mw_X8_init_0 : (Cond.methodLink RX8 3 objectInit : Cond) ∈ wsX8_init := List.mem_cons_of_mem _ (List.mem_append_left _ (List.mem_of_getElem? (i := 0) rfl))
theorem mw_X8_init_1 : (Cond.instanceMethod objectInit : Cond) ∈ wsX8_init := List.mem_cons_of_mem _ (List.mem_append_left _ (List.mem_of_getElem? (i := 1) rfl))
theorem mw_X8_init_2 : (Cond.code objectInit ⟨#[0xb1]⟩ 1 none : Cond) ∈ wsX8_init := List.mem_cons_of_mem _ (List.mem_append_left _ (List.mem_of_getElem? (i := 2) rfl))
theorem mw_X8_init_3 : (Cond.arrayClass .int : Cond) ∈ wsX8_init := List.mem_cons_of_mem _ (List.mem_append_left _ (List.mem_of_getElem? (i := 3) rfl))
theorem ic_X8_init_X8 : ∀ w ∈ wsX80, w ∈ wsX8_init := fun _ h => List.mem_cons_of_mem _ (List.mem_append_right _ h)
theorem mw_X8_init_4 : (Cond.fieldLink RX8 9 "ParametricFlow$Tree" "parent" "[I" : Cond) ∈ wsX8_init := List.mem_cons_of_mem _ (List.mem_append_left _ (List.mem_of_getElem? (i := 4) rfl))
theorem mw_X8_init_5 : (Cond.fieldLink RX8 15 "ParametricFlow$Tree" "link" "[I" : Cond) ∈ wsX8_init := List.mem_cons_of_mem _ (List.mem_append_left _ (List.mem_of_getElem? (i := 5) rfl))
theorem mw_X8_init_6 : (Cond.fieldLink RX8 18 "ParametricFlow$Tree" "depth" "[I" : Cond) ∈ wsX8_init := List.mem_cons_of_mem _ (List.mem_append_left _ (List.mem_of_getElem? (i := 6) rfl))
theorem mw_X8_init_7 : (Cond.arrayClass .long : Cond) ∈ wsX8_init := List.mem_cons_of_mem _ (List.mem_append_left _ (List.mem_of_getElem? (i := 7) rfl))
theorem mw_X8_init_8 : (Cond.fieldLink RX8 21 "ParametricFlow$Tree" "potential" "[J" : Cond) ∈ wsX8_init := List.mem_cons_of_mem _ (List.mem_append_left _ (List.mem_of_getElem? (i := 8) rfl))
theorem mw_X8_init_9 : (Cond.fieldLink RX8 25 "ParametricFlow$Tree" "size" "[I" : Cond) ∈ wsX8_init := List.mem_cons_of_mem _ (List.mem_append_left _ (List.mem_of_getElem? (i := 9) rfl))
theorem mw_X8_init_10 : (Cond.fieldLink RX8 28 "ParametricFlow$Tree" "order" "[I" : Cond) ∈ wsX8_init := List.mem_cons_of_mem _ (List.mem_append_left _ (List.mem_of_getElem? (i := 10) rfl))
theorem mw_X8_init_11 : (Cond.fieldLink RX8 31 "ParametricFlow$Tree" "waiting" "[I" : Cond) ∈ wsX8_init := List.mem_cons_of_mem _ (List.mem_append_left _ (List.mem_of_getElem? (i := 11) rfl))
theorem mw_X0_init_0 : (Cond.methodLink RX0 3 objectInit : Cond) ∈ wsX0_init := List.mem_cons_of_mem _ (List.mem_append_left _ (List.mem_of_getElem? (i := 0) rfl))
theorem mw_X0_init_1 : (Cond.instanceMethod objectInit : Cond) ∈ wsX0_init := List.mem_cons_of_mem _ (List.mem_append_left _ (List.mem_of_getElem? (i := 1) rfl))
theorem mw_X0_init_2 : (Cond.code objectInit ⟨#[0xb1]⟩ 1 none : Cond) ∈ wsX0_init := List.mem_cons_of_mem _ (List.mem_append_left _ (List.mem_of_getElem? (i := 2) rfl))
theorem mw_X0_init_3 : (Cond.arrayClass .int : Cond) ∈ wsX0_init := List.mem_cons_of_mem _ (List.mem_append_left _ (List.mem_of_getElem? (i := 3) rfl))
theorem ic_X0_init_X0 : ∀ w ∈ wsX00, w ∈ wsX0_init := fun _ h => List.mem_cons_of_mem _ (List.mem_append_right _ h)
theorem mw_X0_init_4 : (Cond.fieldLink RX0 9 "ParametricFlow$Arcs" "from" "[I" : Cond) ∈ wsX0_init := List.mem_cons_of_mem _ (List.mem_append_left _ (List.mem_of_getElem? (i := 4) rfl))
theorem mw_X0_init_5 : (Cond.fieldLink RX0 15 "ParametricFlow$Arcs" "to" "[I" : Cond) ∈ wsX0_init := List.mem_cons_of_mem _ (List.mem_append_left _ (List.mem_of_getElem? (i := 5) rfl))
theorem mw_X0_init_6 : (Cond.arrayClass .long : Cond) ∈ wsX0_init := List.mem_cons_of_mem _ (List.mem_append_left _ (List.mem_of_getElem? (i := 6) rfl))
theorem mw_X0_init_7 : (Cond.fieldLink RX0 18 "ParametricFlow$Arcs" "capacity" "[J" : Cond) ∈ wsX0_init := List.mem_cons_of_mem _ (List.mem_append_left _ (List.mem_of_getElem? (i := 7) rfl))
theorem mw_X0_init_8 : (Cond.fieldLink RX0 22 "ParametricFlow$Arcs" "cost" "[J" : Cond) ∈ wsX0_init := List.mem_cons_of_mem _ (List.mem_append_left _ (List.mem_of_getElem? (i := 8) rfl))
theorem mw_X0_init_9 : (Cond.fieldLink RX0 25 "ParametricFlow$Arcs" "flow" "[J" : Cond) ∈ wsX0_init := List.mem_cons_of_mem _ (List.mem_append_left _ (List.mem_of_getElem? (i := 9) rfl))
theorem mw_X0_init_10 : (Cond.fieldLink RX0 28 "ParametricFlow$Arcs" "place" "[I" : Cond) ∈ wsX0_init := List.mem_cons_of_mem _ (List.mem_append_left _ (List.mem_of_getElem? (i := 10) rfl))
theorem mw_X5_init_0 : (Cond.methodLink RX5 3 objectInit : Cond) ∈ wsX5_init := List.mem_cons_of_mem _ (List.mem_append_left _ (List.mem_of_getElem? (i := 0) rfl))
theorem mw_X5_init_1 : (Cond.instanceMethod objectInit : Cond) ∈ wsX5_init := List.mem_cons_of_mem _ (List.mem_append_left _ (List.mem_of_getElem? (i := 1) rfl))
theorem mw_X5_init_2 : (Cond.code objectInit ⟨#[0xb1]⟩ 1 none : Cond) ∈ wsX5_init := List.mem_cons_of_mem _ (List.mem_append_left _ (List.mem_of_getElem? (i := 2) rfl))
theorem ic_X5_init_X5 : ∀ w ∈ wsX50, w ∈ wsX5_init := fun _ h => List.mem_cons_of_mem _ (List.mem_append_right _ h)
theorem mw_X5_init_3 : (Cond.fieldLink RX5 9 "ParametricFlow$Network" "nodes" "I" : Cond) ∈ wsX5_init := List.mem_cons_of_mem _ (List.mem_append_left _ (List.mem_of_getElem? (i := 3) rfl))
theorem mw_X5_init_4 : (Cond.fieldLink RX5 15 "ParametricFlow$Network" "mode" "I" : Cond) ∈ wsX5_init := List.mem_cons_of_mem _ (List.mem_append_left _ (List.mem_of_getElem? (i := 4) rfl))
theorem mw_X5_init_5 : (Cond.arrayClass .int : Cond) ∈ wsX5_init := List.mem_cons_of_mem _ (List.mem_append_left _ (List.mem_of_getElem? (i := 5) rfl))
theorem mw_X5_init_6 : (Cond.fieldLink RX5 18 "ParametricFlow$Network" "supply" "[I" : Cond) ∈ wsX5_init := List.mem_cons_of_mem _ (List.mem_append_left _ (List.mem_of_getElem? (i := 6) rfl))
theorem mw_X5_init_7 : (Cond.fieldLink RX5 22 "ParametricFlow$Network" "supplySlope" "[I" : Cond) ∈ wsX5_init := List.mem_cons_of_mem _ (List.mem_append_left _ (List.mem_of_getElem? (i := 7) rfl))
theorem mw_X5_init_8 : (Cond.fieldLink RX5 25 "ParametricFlow$Network" "from" "[I" : Cond) ∈ wsX5_init := List.mem_cons_of_mem _ (List.mem_append_left _ (List.mem_of_getElem? (i := 8) rfl))
theorem mw_X5_init_9 : (Cond.fieldLink RX5 28 "ParametricFlow$Network" "to" "[I" : Cond) ∈ wsX5_init := List.mem_cons_of_mem _ (List.mem_append_left _ (List.mem_of_getElem? (i := 9) rfl))
theorem mw_X5_init_10 : (Cond.fieldLink RX5 31 "ParametricFlow$Network" "capacity" "[I" : Cond) ∈ wsX5_init := List.mem_cons_of_mem _ (List.mem_append_left _ (List.mem_of_getElem? (i := 10) rfl))
theorem mw_X5_init_11 : (Cond.fieldLink RX5 34 "ParametricFlow$Network" "cost" "[I" : Cond) ∈ wsX5_init := List.mem_cons_of_mem _ (List.mem_append_left _ (List.mem_of_getElem? (i := 11) rfl))
theorem mw_X5_init_12 : (Cond.fieldLink RX5 37 "ParametricFlow$Network" "slope" "[I" : Cond) ∈ wsX5_init := List.mem_cons_of_mem _ (List.mem_append_left _ (List.mem_of_getElem? (i := 12) rfl))
set_option maxHeartbeats 40000000 in
set_option maxRecDepth 100000 in
theorem c_Longs_init (l : Launch) (dC : Nat → ClassId) (dI : Nat → Nat → Nat) (cI cJ cZ cO : ClassId) (sz : Nat) (h0 : Nat) (f0 : Int32)  : Met l yX4_init wsX4_init ({ frames := 1, cells := 1, slots := 32, locals := 20 }) (va_Pc [.ref h0] (fun U => U.heap.size = sz ∧ va_P (dC, dI) pf_cls [(h0, .inr (4, [.int f0, .null]))] U.heap ∧ va_K (dC, dI) pf_cls (pf_ty cI cJ cZ cO) U ∧ va_D (fun _ => True) [(h0, .inr (4, [.int f0, .null]))])) (va_Qv (fun (_ : Unit) => True) (fun (_ : Unit) (t : State) => ∃ (q1 : Nat), va_P (dC, dI) pf_cls [(h0, .inr (4, [.int f0, .ref q1])), (q1, .inl (cJ, 32, .inr (.inl (fun _ => 0))))] t.heap ∧ va_D (va_A [(h0, .inr (4, [.int f0, .null]))] sz) [(h0, .inr (4, [.int f0, .ref q1])), (q1, .inl (cJ, 32, .inr (.inl (fun _ => 0))))]) (va_A [(h0, .inr (4, [.int f0, .null]))] sz)) 1 32 (va_A [(h0, .inr (4, [.int f0, .null]))] sz) := by
  refine Met.ofW (cc := cX4_init) (maxL := 1) (ret := none) (by decide) rfl ?_
  intro p e s m args below meth c s₁ B hml hv
  obtain ⟨rfl, hsz, hP, hK, hD0⟩ := hv
  have hx := B.exec
  have hb := B.bytes
  have hr := B.returns
  have hts := atoms_spec (ws := wsX4_init) B.pre
  have hown : s.vm.findClass RX4 = some m.cls := findClass_of_methodNamed B.named
  have hlocks := B.notSynchronized
  have hin : meth.name = "<init>" := (name_of_methodNamed B.named B.method).1
  subst hsz
  have hD := hD0.self (sz := s.heap.size)
  generalize hAe : va_A [(h0, .inr (4, [.int f0, .null]))] s.heap.size = A at hD ⊢
  have hA : ∀ q : Nat, s.heap.size ≤ q → A q := fun q h => by rw [← hAe]; exact Or.inr h
  have hS : va_S A s.heap s.heap [] := va_S.rf
  have hP : va_P (dC, dI) pf_cls [(h0, .inr (4, [.int f0, .null]))] s.heap := hP
  have hl := lv_entry ([.ref h0]) (n := 1) (Nat.le_of_ble_eq_true rfl)
  rw [lg_entry_eq]
  generalize (lg_sl ([.ref h0]) ++ List.replicate (1 - (lg_sl ([.ref h0])).length) Slot.unset).toArray = ls at hl ⊢
  have hl : lv_has ls 1 [(0, .ref h0)] := hl
  refine lv_aload_n hx hb dX4_init_0 rfl (lv_at hl 0 rfl) ?_
  refine W.objInit hx hb hown (hts _ mw_X4_init_0) (hts _ mw_X4_init_1) (hts _ mw_X4_init_2) rfl (hl.1.trans hml.symm) rfl dX4_init_1 (Nat.le_of_ble_eq_true rfl) (Nat.le_of_ble_eq_true rfl) ?_
  refine W.eq (g2 := F0 m 4 ls []) rfl ?_
  refine lv_aload_n hx hb dX4_init_4 rfl (lv_at hl 0 rfl) ?_
  refine lv_bipush (v := 32) hx hb dX4_init_5 (by decide +kernel) ?_
  refine pf_newJ (N' := 32) hx hb (hts _ mw_X4_init_3) hK hP hD hS hA 1 rfl (by decide +kernel) (by decide +kernel) (by decide) (Nat.le_of_ble_eq_true rfl) (Nat.le_of_ble_eq_true rfl) dX4_init_7 (fun q1 H hP hD hS => ?_)
  have hP : va_P (dC, dI) pf_cls [(h0, .inr (4, [.int f0, .null])), (q1, .inl (cJ, 32, .inr (.inl (fun _ => 0))))] H := hP
  have hD : va_D A [(h0, .inr (4, [.int f0, .null])), (q1, .inl (cJ, 32, .inr (.inl (fun _ => 0))))] := hD
  refine va_put (D := (dC, dI)) (ci := 4) (v := .ref q1) (ty := .array .long) (C := RX4) (T := TX4) (N := 2) hx hb hts ic_X4_init_X4 tyX4 tyX4_ok nmX4 hown hK hP hD hS 0 rfl rfl 1 (by decide) (hts _ mw_X4_init_4) (fun _ h9 => h9) rfl (by decide +kernel) rfl rfl (Nat.le_of_ble_eq_true rfl) dX4_init_9 (fun H locs hP hD hS => ?_)
  have hP : va_P (dC, dI) pf_cls [(h0, .inr (4, [.int f0, .ref q1])), (q1, .inl (cJ, 32, .inr (.inl (fun _ => 0))))] H := hP
  have hD : va_D A [(h0, .inr (4, [.int f0, .ref q1])), (q1, .inl (cJ, 32, .inr (.inl (fun _ => 0))))] := hD
  have hP9 := hP.sub (ws' := [(h0, .inr (4, [.int f0, .ref q1])), (q1, .inl (cJ, 32, .inr (.inl (fun _ => 0))))]) [0, 1] rfl
  have hD9 := hD.sub (ws' := [(h0, .inr (4, [.int f0, .ref q1])), (q1, .inl (cJ, 32, .inr (.inl (fun _ => 0))))]) [0, 1] (by decide) rfl
  refine W.widen (k := 1) (n := 32) (Nat.le_of_ble_eq_true rfl) (Nat.le_of_ble_eq_true rfl) ?_
  exact W.vret hx hb hr (fun t ht hW => ⟨⟨(), rfl, trivial, q1, (by rw [ht]; exact hP9), hD9⟩, hS.F ht⟩) hS.2.2 dX4_init_12
set_option maxHeartbeats 40000000 in
set_option maxRecDepth 100000 in
theorem c_Longs_clear (l : Launch) (dC : Nat → ClassId) (dI : Nat → Nat → Nat) (cI cJ cZ cO : ClassId) (sz : Nat) (h0 : Nat) (f0 : Int32) (a0 : Nat)  : Met l yX4_clear wsX4_clear ({ frames := 0, cells := 0, slots := 0, locals := 0 }) (va_Pc [.ref h0] (fun U => U.heap.size = sz ∧ va_P (dC, dI) pf_cls [(h0, .inr (4, [.int f0, .ref a0]))] U.heap ∧ va_K (dC, dI) pf_cls (pf_ty cI cJ cZ cO) U ∧ va_D (fun _ => True) [(h0, .inr (4, [.int f0, .ref a0]))])) (va_Qv (fun (_ : Unit) => True) (fun (_ : Unit) (t : State) => va_P (dC, dI) pf_cls [(h0, .inr (4, [.int 0, .ref a0]))] t.heap ∧ va_D (va_A [(h0, .inr (4, [.int f0, .ref a0]))] sz) [(h0, .inr (4, [.int 0, .ref a0]))]) (va_A [(h0, .inr (4, [.int f0, .ref a0]))] sz)) 0 0 (va_A [(h0, .inr (4, [.int f0, .ref a0]))] sz) := by
  refine Met.ofW (cc := cX4_clear) (maxL := 1) (ret := none) (by decide) rfl ?_
  intro p e s m args below meth c s₁ B hml hv
  obtain ⟨rfl, hsz, hP, hK, hD0⟩ := hv
  have hx := B.exec
  have hb := B.bytes
  have hr := B.returns
  have hts := atoms_spec (ws := wsX4_clear) B.pre
  have hown : s.vm.findClass RX4 = some m.cls := findClass_of_methodNamed B.named
  have hlocks := B.notSynchronized
  subst hsz
  have hD := hD0.self (sz := s.heap.size)
  generalize hAe : va_A [(h0, .inr (4, [.int f0, .ref a0]))] s.heap.size = A at hD ⊢
  have hA : ∀ q : Nat, s.heap.size ≤ q → A q := fun q h => by rw [← hAe]; exact Or.inr h
  have hS : va_S A s.heap s.heap [] := va_S.rf
  have hP : va_P (dC, dI) pf_cls [(h0, .inr (4, [.int f0, .ref a0]))] s.heap := hP
  have hl := lv_entry ([.ref h0]) (n := 1) (Nat.le_of_ble_eq_true rfl)
  rw [lg_entry_eq]
  generalize (lg_sl ([.ref h0]) ++ List.replicate (1 - (lg_sl ([.ref h0])).length) Slot.unset).toArray = ls at hl ⊢
  have hl : lv_has ls 1 [(0, .ref h0)] := hl
  refine lv_aload_n hx hb dX4_clear_0 rfl (lv_at hl 0 rfl) ?_
  refine lv_iconst (v := 0) hx hb dX4_clear_1 (by decide) ?_
  refine va_put (D := (dC, dI)) (ci := 4) (v := .int 0) (ty := .int) (C := RX4) (T := TX4) (N := 2) hx hb hts ic_X4_clear_X4 tyX4 tyX4_ok nmX4 hown hK hP hD hS 0 rfl rfl 0 (by decide) (hts _ mw_X4_clear_0) (fun _ h9 => h9) rfl (by decide +kernel) rfl rfl (Nat.le_of_ble_eq_true rfl) dX4_clear_2 (fun H locs hP hD hS => ?_)
  have hP : va_P (dC, dI) pf_cls [(h0, .inr (4, [.int 0, .ref a0]))] H := hP
  have hD : va_D A [(h0, .inr (4, [.int 0, .ref a0]))] := hD
  have hP9 := hP.sub (ws' := [(h0, .inr (4, [.int 0, .ref a0]))]) [0] rfl
  have hD9 := hD.sub (ws' := [(h0, .inr (4, [.int 0, .ref a0]))]) [0] (by decide) rfl
  refine W.widen (k := 0) (n := 0) (Nat.le_of_ble_eq_true rfl) (Nat.le_of_ble_eq_true rfl) ?_
  exact W.vret hx hb hr (fun t ht hW => ⟨⟨(), rfl, trivial, (by rw [ht]; exact hP9), hD9⟩, hS.F ht⟩) hS.2.2 dX4_clear_5
set_option maxHeartbeats 40000000 in
set_option maxRecDepth 100000 in
theorem c_Longs_add0 (l : Launch) (dC : Nat → ClassId) (dI : Nat → Nat → Nat) (cI cJ cZ cO : ClassId) (sz : Nat) (h0 : Nat) (x : Int64) (a0 : Nat) (g0 : Nat → Int64)  : Met l yX4_add wsX4_add ({ frames := 0, cells := 0, slots := 0, locals := 0 }) (va_Pc [.ref h0, .long x] (fun U => U.heap.size = sz ∧ va_P (dC, dI) pf_cls [(h0, .inr (4, [.int 0, .ref a0])), (a0, .inl (cJ, 32, .inr (.inl g0)))] U.heap ∧ va_K (dC, dI) pf_cls (pf_ty cI cJ cZ cO) U ∧ va_D (fun _ => True) [(h0, .inr (4, [.int 0, .ref a0])), (a0, .inl (cJ, 32, .inr (.inl g0)))])) (va_Qv (fun (_ : Unit) => True) (fun (_ : Unit) (t : State) => va_P (dC, dI) pf_cls [(h0, .inr (4, [.int 1, .ref a0])), (a0, .inl (cJ, 32, .inr (.inl (vp_updL g0 0 x))))] t.heap ∧ va_D (va_A [(h0, .inr (4, [.int 0, .ref a0])), (a0, .inl (cJ, 32, .inr (.inl g0)))] sz) [(h0, .inr (4, [.int 1, .ref a0])), (a0, .inl (cJ, 32, .inr (.inl (vp_updL g0 0 x))))]) (va_A [(h0, .inr (4, [.int 0, .ref a0])), (a0, .inl (cJ, 32, .inr (.inl g0)))] sz)) 0 0 (va_A [(h0, .inr (4, [.int 0, .ref a0])), (a0, .inl (cJ, 32, .inr (.inl g0)))] sz) := by
  refine Met.ofW (cc := cX4_add) (maxL := 3) (ret := none) (by decide) rfl ?_
  intro p e s m args below meth c s₁ B hml hv
  obtain ⟨rfl, hsz, hP, hK, hD0⟩ := hv
  have hx := B.exec
  have hb := B.bytes
  have hr := B.returns
  have hts := atoms_spec (ws := wsX4_add) B.pre
  have hown : s.vm.findClass RX4 = some m.cls := findClass_of_methodNamed B.named
  have hlocks := B.notSynchronized
  subst hsz
  have hD := hD0.self (sz := s.heap.size)
  generalize hAe : va_A [(h0, .inr (4, [.int 0, .ref a0])), (a0, .inl (cJ, 32, .inr (.inl g0)))] s.heap.size = A at hD ⊢
  have hA : ∀ q : Nat, s.heap.size ≤ q → A q := fun q h => by rw [← hAe]; exact Or.inr h
  have hS : va_S A s.heap s.heap [] := va_S.rf
  have hP : va_P (dC, dI) pf_cls [(h0, .inr (4, [.int 0, .ref a0])), (a0, .inl (cJ, 32, .inr (.inl g0)))] s.heap := hP
  have hl := lv_entry ([.ref h0, .long x]) (n := 3) (Nat.le_of_ble_eq_true rfl)
  rw [lg_entry_eq]
  generalize (lg_sl ([.ref h0, .long x]) ++ List.replicate (3 - (lg_sl ([.ref h0, .long x])).length) Slot.unset).toArray = ls at hl ⊢
  have hl : lv_has ls 3 [(0, .ref h0), (1, .long x)] := hl
  refine lv_aload_n hx hb dX4_add_0 rfl (lv_at hl 0 rfl) ?_
  refine va_get (D := (dC, dI)) (ci := 4) (v := .int 0) (C := RX4) (T := TX4) (N := 2) hx hb hts ic_X4_add_X4 hown hK hP 0 rfl rfl 0 (by decide) (hts _ mw_X4_add_0) (fun _ h9 => h9) rfl dX4_add_1 ?_
  refine lv_aload_n hx hb dX4_add_4 rfl (lv_at hl 0 rfl) ?_
  refine va_get (D := (dC, dI)) (ci := 4) (v := .ref a0) (C := RX4) (T := TX4) (N := 2) hx hb hts ic_X4_add_X4 hown hK hP 0 rfl rfl 1 (by decide) (hts _ mw_X4_add_1) (fun _ h9 => h9) rfl dX4_add_5 ?_
  refine va_alen (v := 32) hx hb hK hP 1 1 rfl rfl (by decide +kernel) dX4_add_8 ?_
  refine lv_icmp_lt (tgt := 39) hx hb dX4_add_9 (by decide) (fun _ => ?_) (fun c0 => absurd (by decide +kernel) c0)
  refine lv_aload_n hx hb dX4_add_39 rfl (lv_at hl 0 rfl) ?_
  refine va_get (D := (dC, dI)) (ci := 4) (v := .ref a0) (C := RX4) (T := TX4) (N := 2) hx hb hts ic_X4_add_X4 hown hK hP 0 rfl rfl 1 (by decide) (hts _ mw_X4_add_1) (fun _ h9 => h9) rfl dX4_add_40 ?_
  refine lv_aload_n hx hb dX4_add_43 rfl (lv_at hl 0 rfl) ?_
  refine va_get (D := (dC, dI)) (ci := 4) (v := .int 0) (C := RX4) (T := TX4) (N := 2) hx hb hts ic_X4_add_X4 hown hK hP 0 rfl rfl 0 (by decide) (hts _ mw_X4_add_0) (fun _ h9 => h9) rfl dX4_add_44 ?_
  refine lv_lload_n hx hb dX4_add_47 rfl (lv_at hl 1 rfl) ?_
  refine pf_last hx hb hK hP hD hS 1 1 0 rfl rfl (by decide +kernel) (by decide +kernel) (by decide) dX4_add_48 (fun H locs hP hD hS => ?_)
  have hP : va_P (dC, dI) pf_cls [(h0, .inr (4, [.int 0, .ref a0])), (a0, .inl (cJ, 32, .inr (.inl (vp_updL g0 0 x))))] H := hP
  have hD : va_D A [(h0, .inr (4, [.int 0, .ref a0])), (a0, .inl (cJ, 32, .inr (.inl (vp_updL g0 0 x))))] := hD
  refine lv_aload_n hx hb dX4_add_49 rfl (lv_at hl 0 rfl) ?_
  refine lv_dup hx hb dX4_add_50 rfl ?_
  refine va_get (D := (dC, dI)) (ci := 4) (v := .int 0) (C := RX4) (T := TX4) (N := 2) hx hb hts ic_X4_add_X4 hown hK hP 0 rfl rfl 0 (by decide) (hts _ mw_X4_add_0) (fun _ h9 => h9) rfl dX4_add_51 ?_
  refine lv_iconst (v := 1) hx hb dX4_add_54 (by decide) ?_
  refine lv_iadd hx hb dX4_add_55 ?_
  refine pf_topi (v := 1) (by decide +kernel) ?_
  refine va_put (D := (dC, dI)) (ci := 4) (v := .int 1) (ty := .int) (C := RX4) (T := TX4) (N := 2) hx hb hts ic_X4_add_X4 tyX4 tyX4_ok nmX4 hown hK hP hD hS 0 rfl rfl 0 (by decide) (hts _ mw_X4_add_0) (fun _ h9 => h9) rfl (by decide +kernel) rfl rfl (Nat.le_of_ble_eq_true rfl) dX4_add_56 (fun H locs hP hD hS => ?_)
  have hP : va_P (dC, dI) pf_cls [(h0, .inr (4, [.int 1, .ref a0])), (a0, .inl (cJ, 32, .inr (.inl (vp_updL g0 0 x))))] H := hP
  have hD : va_D A [(h0, .inr (4, [.int 1, .ref a0])), (a0, .inl (cJ, 32, .inr (.inl (vp_updL g0 0 x))))] := hD
  have hP9 := hP.sub (ws' := [(h0, .inr (4, [.int 1, .ref a0])), (a0, .inl (cJ, 32, .inr (.inl (vp_updL g0 0 x))))]) [0, 1] rfl
  have hD9 := hD.sub (ws' := [(h0, .inr (4, [.int 1, .ref a0])), (a0, .inl (cJ, 32, .inr (.inl (vp_updL g0 0 x))))]) [0, 1] (by decide) rfl
  refine W.widen (k := 0) (n := 0) (Nat.le_of_ble_eq_true rfl) (Nat.le_of_ble_eq_true rfl) ?_
  exact W.vret hx hb hr (fun t ht hW => ⟨⟨(), rfl, trivial, (by rw [ht]; exact hP9), hD9⟩, hS.F ht⟩) hS.2.2 dX4_add_59
set_option maxHeartbeats 40000000 in
set_option maxRecDepth 100000 in
theorem c_Line_init (l : Launch) (dC : Nat → ClassId) (dI : Nat → Nat → Nat) (cI cJ cZ cO : ClassId) (sz : Nat) (h0 : Nat) (f0 : Int64) (f1 : Int64) (f2 : Int64) (f3 : Int64)  : Met l yX3_init wsX3_init ({ frames := 1, cells := 0, slots := 0, locals := 20 }) (va_Pc [.ref h0] (fun U => U.heap.size = sz ∧ va_P (dC, dI) pf_cls [(h0, .inr (3, [.long f0, .long f1, .long f2, .long f3]))] U.heap ∧ va_K (dC, dI) pf_cls (pf_ty cI cJ cZ cO) U ∧ va_D (fun _ => True) [(h0, .inr (3, [.long f0, .long f1, .long f2, .long f3]))])) (va_Qv (fun (_ : Unit) => True) (fun (_ : Unit) (t : State) => va_P (dC, dI) pf_cls [(h0, .inr (3, [.long f0, .long f1, .long f2, .long 1]))] t.heap ∧ va_D (va_A [(h0, .inr (3, [.long f0, .long f1, .long f2, .long f3]))] sz) [(h0, .inr (3, [.long f0, .long f1, .long f2, .long 1]))]) (va_A [(h0, .inr (3, [.long f0, .long f1, .long f2, .long f3]))] sz)) 0 0 (va_A [(h0, .inr (3, [.long f0, .long f1, .long f2, .long f3]))] sz) := by
  refine Met.ofW (cc := cX3_init) (maxL := 1) (ret := none) (by decide) rfl ?_
  intro p e s m args below meth c s₁ B hml hv
  obtain ⟨rfl, hsz, hP, hK, hD0⟩ := hv
  have hx := B.exec
  have hb := B.bytes
  have hr := B.returns
  have hts := atoms_spec (ws := wsX3_init) B.pre
  have hown : s.vm.findClass RX3 = some m.cls := findClass_of_methodNamed B.named
  have hlocks := B.notSynchronized
  have hin : meth.name = "<init>" := (name_of_methodNamed B.named B.method).1
  subst hsz
  have hD := hD0.self (sz := s.heap.size)
  generalize hAe : va_A [(h0, .inr (3, [.long f0, .long f1, .long f2, .long f3]))] s.heap.size = A at hD ⊢
  have hA : ∀ q : Nat, s.heap.size ≤ q → A q := fun q h => by rw [← hAe]; exact Or.inr h
  have hS : va_S A s.heap s.heap [] := va_S.rf
  have hP : va_P (dC, dI) pf_cls [(h0, .inr (3, [.long f0, .long f1, .long f2, .long f3]))] s.heap := hP
  have hl := lv_entry ([.ref h0]) (n := 1) (Nat.le_of_ble_eq_true rfl)
  rw [lg_entry_eq]
  generalize (lg_sl ([.ref h0]) ++ List.replicate (1 - (lg_sl ([.ref h0])).length) Slot.unset).toArray = ls at hl ⊢
  have hl : lv_has ls 1 [(0, .ref h0)] := hl
  refine lv_aload_n hx hb dX3_init_0 rfl (lv_at hl 0 rfl) ?_
  refine W.objInit hx hb hown (hts _ mw_X3_init_0) (hts _ mw_X3_init_1) (hts _ mw_X3_init_2) rfl (hl.1.trans hml.symm) rfl dX3_init_1 (Nat.le_of_ble_eq_true rfl) (Nat.le_of_ble_eq_true rfl) ?_
  refine W.eq (g2 := F0 m 4 ls []) rfl ?_
  refine lv_aload_n hx hb dX3_init_4 rfl (lv_at hl 0 rfl) ?_
  refine lv_lconst (v := 1) hx hb dX3_init_5 (by decide +kernel) ?_
  refine va_put (D := (dC, dI)) (ci := 3) (v := .long 1) (ty := .long) (C := RX3) (T := TX3) (N := 4) hx hb hts ic_X3_init_X3 tyX3 tyX3_ok nmX3 hown hK hP hD hS 0 rfl rfl 3 (by decide) (hts _ mw_X3_init_3) (fun _ h9 => h9) rfl (by decide +kernel) rfl rfl (Nat.le_of_ble_eq_true rfl) dX3_init_6 (fun H locs hP hD hS => ?_)
  have hP : va_P (dC, dI) pf_cls [(h0, .inr (3, [.long f0, .long f1, .long f2, .long 1]))] H := hP
  have hD : va_D A [(h0, .inr (3, [.long f0, .long f1, .long f2, .long 1]))] := hD
  have hP9 := hP.sub (ws' := [(h0, .inr (3, [.long f0, .long f1, .long f2, .long 1]))]) [0] rfl
  have hD9 := hD.sub (ws' := [(h0, .inr (3, [.long f0, .long f1, .long f2, .long 1]))]) [0] (by decide) rfl
  refine W.widen (k := 0) (n := 0) (Nat.le_of_ble_eq_true rfl) (Nat.le_of_ble_eq_true rfl) ?_
  exact W.vret hx hb hr (fun t ht hW => ⟨⟨(), rfl, trivial, (by rw [ht]; exact hP9), hD9⟩, hS.F ht⟩) hS.2.2 dX3_init_9
set_option maxHeartbeats 40000000 in
set_option maxRecDepth 100000 in
theorem c_Range_init (l : Launch) (dC : Nat → ClassId) (dI : Nat → Nat → Nat) (cI cJ cZ cO : ClassId) (sz : Nat) (h0 : Nat)  : Met l yX6_init wsX6_init ({ frames := 1, cells := 0, slots := 0, locals := 20 }) (va_Pc [.ref h0] (fun U => U.heap.size = sz ∧ va_P (dC, dI) pf_cls [(h0, .inr (6, [.int 0, .int 0, .long 0, .long 0, .long 0, .long 0]))] U.heap ∧ va_K (dC, dI) pf_cls (pf_ty cI cJ cZ cO) U ∧ va_D (fun _ => True) [(h0, .inr (6, [.int 0, .int 0, .long 0, .long 0, .long 0, .long 0]))])) (va_Qv (fun (_ : Unit) => True) (fun (_ : Unit) (t : State) => va_P (dC, dI) pf_cls [(h0, .inr (6, [.int 0, .int 0, .long 0, .long 1, .long 0, .long 1]))] t.heap ∧ va_D (va_A [(h0, .inr (6, [.int 0, .int 0, .long 0, .long 0, .long 0, .long 0]))] sz) [(h0, .inr (6, [.int 0, .int 0, .long 0, .long 1, .long 0, .long 1]))]) (va_A [(h0, .inr (6, [.int 0, .int 0, .long 0, .long 0, .long 0, .long 0]))] sz)) 0 0 (va_A [(h0, .inr (6, [.int 0, .int 0, .long 0, .long 0, .long 0, .long 0]))] sz) := by
  refine Met.ofW (cc := cX6_init) (maxL := 1) (ret := none) (by decide) rfl ?_
  intro p e s m args below meth c s₁ B hml hv
  obtain ⟨rfl, hsz, hP, hK, hD0⟩ := hv
  have hx := B.exec
  have hb := B.bytes
  have hr := B.returns
  have hts := atoms_spec (ws := wsX6_init) B.pre
  have hown : s.vm.findClass RX6 = some m.cls := findClass_of_methodNamed B.named
  have hlocks := B.notSynchronized
  have hin : meth.name = "<init>" := (name_of_methodNamed B.named B.method).1
  subst hsz
  have hD := hD0.self (sz := s.heap.size)
  generalize hAe : va_A [(h0, .inr (6, [.int 0, .int 0, .long 0, .long 0, .long 0, .long 0]))] s.heap.size = A at hD ⊢
  have hA : ∀ q : Nat, s.heap.size ≤ q → A q := fun q h => by rw [← hAe]; exact Or.inr h
  have hS : va_S A s.heap s.heap [] := va_S.rf
  have hP : va_P (dC, dI) pf_cls [(h0, .inr (6, [.int 0, .int 0, .long 0, .long 0, .long 0, .long 0]))] s.heap := hP
  have hl := lv_entry ([.ref h0]) (n := 1) (Nat.le_of_ble_eq_true rfl)
  rw [lg_entry_eq]
  generalize (lg_sl ([.ref h0]) ++ List.replicate (1 - (lg_sl ([.ref h0])).length) Slot.unset).toArray = ls at hl ⊢
  have hl : lv_has ls 1 [(0, .ref h0)] := hl
  refine lv_aload_n hx hb dX6_init_0 rfl (lv_at hl 0 rfl) ?_
  refine W.objInit hx hb hown (hts _ mw_X6_init_0) (hts _ mw_X6_init_1) (hts _ mw_X6_init_2) rfl (hl.1.trans hml.symm) rfl dX6_init_1 (Nat.le_of_ble_eq_true rfl) (Nat.le_of_ble_eq_true rfl) ?_
  refine W.eq (g2 := F0 m 4 ls []) rfl ?_
  refine lv_aload_n hx hb dX6_init_4 rfl (lv_at hl 0 rfl) ?_
  refine lv_lconst (v := 1) hx hb dX6_init_5 (by decide +kernel) ?_
  refine va_put (D := (dC, dI)) (ci := 6) (v := .long 1) (ty := .long) (C := RX6) (T := TX6) (N := 6) hx hb hts ic_X6_init_X6 tyX6 tyX6_ok nmX6 hown hK hP hD hS 0 rfl rfl 3 (by decide) (hts _ mw_X6_init_3) (fun _ h9 => h9) rfl (by decide +kernel) rfl rfl (Nat.le_of_ble_eq_true rfl) dX6_init_6 (fun H locs hP hD hS => ?_)
  have hP : va_P (dC, dI) pf_cls [(h0, .inr (6, [.int 0, .int 0, .long 0, .long 1, .long 0, .long 0]))] H := hP
  have hD : va_D A [(h0, .inr (6, [.int 0, .int 0, .long 0, .long 1, .long 0, .long 0]))] := hD
  refine lv_aload_n hx hb dX6_init_9 rfl (lv_at hl 0 rfl) ?_
  refine lv_lconst (v := 1) hx hb dX6_init_10 (by decide +kernel) ?_
  refine va_put (D := (dC, dI)) (ci := 6) (v := .long 1) (ty := .long) (C := RX6) (T := TX6) (N := 6) hx hb hts ic_X6_init_X6 tyX6 tyX6_ok nmX6 hown hK hP hD hS 0 rfl rfl 5 (by decide) (hts _ mw_X6_init_4) (fun _ h9 => h9) rfl (by decide +kernel) rfl rfl (Nat.le_of_ble_eq_true rfl) dX6_init_11 (fun H locs hP hD hS => ?_)
  have hP : va_P (dC, dI) pf_cls [(h0, .inr (6, [.int 0, .int 0, .long 0, .long 1, .long 0, .long 1]))] H := hP
  have hD : va_D A [(h0, .inr (6, [.int 0, .int 0, .long 0, .long 1, .long 0, .long 1]))] := hD
  have hP9 := hP.sub (ws' := [(h0, .inr (6, [.int 0, .int 0, .long 0, .long 1, .long 0, .long 1]))]) [0] rfl
  have hD9 := hD.sub (ws' := [(h0, .inr (6, [.int 0, .int 0, .long 0, .long 1, .long 0, .long 1]))]) [0] (by decide) rfl
  refine W.widen (k := 0) (n := 0) (Nat.le_of_ble_eq_true rfl) (Nat.le_of_ble_eq_true rfl) ?_
  exact W.vret hx hb hr (fun t ht hW => ⟨⟨(), rfl, trivial, (by rw [ht]; exact hP9), hD9⟩, hS.F ht⟩) hS.2.2 dX6_init_14
set_option maxHeartbeats 40000000 in
set_option maxRecDepth 100000 in
theorem c_Cycle_init (l : Launch) (dC : Nat → ClassId) (dI : Nat → Nat → Nat) (cI cJ cZ cO : ClassId) (sz : Nat) (h0 : Nat)  : Met l yX2_init wsX2_init ({ frames := 1, cells := 0, slots := 0, locals := 20 }) (va_Pc [.ref h0] (fun U => U.heap.size = sz ∧ va_P (dC, dI) pf_cls [(h0, .inr (2, [.int 0, .int 0, .int 0, .int 0, .int 0, .long 0, .int 0, .int 0]))] U.heap ∧ va_K (dC, dI) pf_cls (pf_ty cI cJ cZ cO) U ∧ va_D (fun _ => True) [(h0, .inr (2, [.int 0, .int 0, .int 0, .int 0, .int 0, .long 0, .int 0, .int 0]))])) (va_Qv (fun (_ : Unit) => True) (fun (_ : Unit) (t : State) => va_P (dC, dI) pf_cls [(h0, .inr (2, [.int 0, .int 0, .int 0, .int 0, .int 0, .long 0, .int 0, .int 0]))] t.heap ∧ va_D (va_A [(h0, .inr (2, [.int 0, .int 0, .int 0, .int 0, .int 0, .long 0, .int 0, .int 0]))] sz) [(h0, .inr (2, [.int 0, .int 0, .int 0, .int 0, .int 0, .long 0, .int 0, .int 0]))]) (va_A [(h0, .inr (2, [.int 0, .int 0, .int 0, .int 0, .int 0, .long 0, .int 0, .int 0]))] sz)) 0 0 (va_A [(h0, .inr (2, [.int 0, .int 0, .int 0, .int 0, .int 0, .long 0, .int 0, .int 0]))] sz) := by
  refine Met.ofW (cc := cX2_init) (maxL := 1) (ret := none) (by decide) rfl ?_
  intro p e s m args below meth c s₁ B hml hv
  obtain ⟨rfl, hsz, hP, hK, hD0⟩ := hv
  have hx := B.exec
  have hb := B.bytes
  have hr := B.returns
  have hts := atoms_spec (ws := wsX2_init) B.pre
  have hown : s.vm.findClass RX2 = some m.cls := findClass_of_methodNamed B.named
  have hlocks := B.notSynchronized
  have hin : meth.name = "<init>" := (name_of_methodNamed B.named B.method).1
  subst hsz
  have hD := hD0.self (sz := s.heap.size)
  generalize hAe : va_A [(h0, .inr (2, [.int 0, .int 0, .int 0, .int 0, .int 0, .long 0, .int 0, .int 0]))] s.heap.size = A at hD ⊢
  have hA : ∀ q : Nat, s.heap.size ≤ q → A q := fun q h => by rw [← hAe]; exact Or.inr h
  have hS : va_S A s.heap s.heap [] := va_S.rf
  have hP : va_P (dC, dI) pf_cls [(h0, .inr (2, [.int 0, .int 0, .int 0, .int 0, .int 0, .long 0, .int 0, .int 0]))] s.heap := hP
  have hl := lv_entry ([.ref h0]) (n := 1) (Nat.le_of_ble_eq_true rfl)
  rw [lg_entry_eq]
  generalize (lg_sl ([.ref h0]) ++ List.replicate (1 - (lg_sl ([.ref h0])).length) Slot.unset).toArray = ls at hl ⊢
  have hl : lv_has ls 1 [(0, .ref h0)] := hl
  refine lv_aload_n hx hb dX2_init_0 rfl (lv_at hl 0 rfl) ?_
  refine W.objInit hx hb hown (hts _ mw_X2_init_0) (hts _ mw_X2_init_1) (hts _ mw_X2_init_2) rfl (hl.1.trans hml.symm) rfl dX2_init_1 (Nat.le_of_ble_eq_true rfl) (Nat.le_of_ble_eq_true rfl) ?_
  refine W.eq (g2 := F0 m 4 ls []) rfl ?_
  have hP9 := hP.sub (ws' := [(h0, .inr (2, [.int 0, .int 0, .int 0, .int 0, .int 0, .long 0, .int 0, .int 0]))]) [0] rfl
  have hD9 := hD.sub (ws' := [(h0, .inr (2, [.int 0, .int 0, .int 0, .int 0, .int 0, .long 0, .int 0, .int 0]))]) [0] (by decide) rfl
  refine W.widen (k := 0) (n := 0) (Nat.le_of_ble_eq_true rfl) (Nat.le_of_ble_eq_true rfl) ?_
  exact W.vret hx hb hr (fun t ht hW => ⟨⟨(), rfl, trivial, (by rw [ht]; exact hP9), hD9⟩, hS.F ht⟩) hS.2.2 dX2_init_4
set_option maxHeartbeats 40000000 in
set_option maxRecDepth 100000 in
theorem c_Tree_init (l : Launch) (dC : Nat → ClassId) (dI : Nat → Nat → Nat) (cI cJ cZ cO : ClassId) (sz : Nat) (h0 : Nat)  : Met l yX8_init wsX8_init ({ frames := 1, cells := 7, slots := 63, locals := 20 }) (va_Pc [.ref h0] (fun U => U.heap.size = sz ∧ va_P (dC, dI) pf_cls [(h0, .inr (8, [.int 0, .null, .null, .null, .null, .null, .null, .null]))] U.heap ∧ va_K (dC, dI) pf_cls (pf_ty cI cJ cZ cO) U ∧ va_D (fun _ => True) [(h0, .inr (8, [.int 0, .null, .null, .null, .null, .null, .null, .null]))])) (va_Qv (fun (_ : Unit) => True) (fun (_ : Unit) (t : State) => ∃ (q1 q2 q3 q4 q5 q6 q7 : Nat), va_P (dC, dI) pf_cls [(h0, .inr (8, [.int 0, .ref q1, .ref q2, .ref q3, .ref q4, .ref q5, .ref q6, .ref q7])), (q1, .inl (cI, 9, .inl (fun _ => 0))), (q2, .inl (cI, 9, .inl (fun _ => 0))), (q3, .inl (cI, 9, .inl (fun _ => 0))), (q4, .inl (cJ, 9, .inr (.inl (fun _ => 0)))), (q5, .inl (cI, 9, .inl (fun _ => 0))), (q6, .inl (cI, 9, .inl (fun _ => 0))), (q7, .inl (cI, 9, .inl (fun _ => 0)))] t.heap ∧ va_D (va_A [(h0, .inr (8, [.int 0, .null, .null, .null, .null, .null, .null, .null]))] sz) [(h0, .inr (8, [.int 0, .ref q1, .ref q2, .ref q3, .ref q4, .ref q5, .ref q6, .ref q7])), (q1, .inl (cI, 9, .inl (fun _ => 0))), (q2, .inl (cI, 9, .inl (fun _ => 0))), (q3, .inl (cI, 9, .inl (fun _ => 0))), (q4, .inl (cJ, 9, .inr (.inl (fun _ => 0)))), (q5, .inl (cI, 9, .inl (fun _ => 0))), (q6, .inl (cI, 9, .inl (fun _ => 0))), (q7, .inl (cI, 9, .inl (fun _ => 0)))]) (va_A [(h0, .inr (8, [.int 0, .null, .null, .null, .null, .null, .null, .null]))] sz)) 7 63 (va_A [(h0, .inr (8, [.int 0, .null, .null, .null, .null, .null, .null, .null]))] sz) := by
  refine Met.ofW (cc := cX8_init) (maxL := 1) (ret := none) (by decide) rfl ?_
  intro p e s m args below meth c s₁ B hml hv
  obtain ⟨rfl, hsz, hP, hK, hD0⟩ := hv
  have hx := B.exec
  have hb := B.bytes
  have hr := B.returns
  have hts := atoms_spec (ws := wsX8_init) B.pre
  have hown : s.vm.findClass RX8 = some m.cls := findClass_of_methodNamed B.named
  have hlocks := B.notSynchronized
  have hin : meth.name = "<init>" := (name_of_methodNamed B.named B.method).1
  subst hsz
  have hD := hD0.self (sz := s.heap.size)
  generalize hAe : va_A [(h0, .inr (8, [.int 0, .null, .null, .null, .null, .null, .null, .null]))] s.heap.size = A at hD ⊢
  have hA : ∀ q : Nat, s.heap.size ≤ q → A q := fun q h => by rw [← hAe]; exact Or.inr h
  have hS : va_S A s.heap s.heap [] := va_S.rf
  have hP : va_P (dC, dI) pf_cls [(h0, .inr (8, [.int 0, .null, .null, .null, .null, .null, .null, .null]))] s.heap := hP
  have hl := lv_entry ([.ref h0]) (n := 1) (Nat.le_of_ble_eq_true rfl)
  rw [lg_entry_eq]
  generalize (lg_sl ([.ref h0]) ++ List.replicate (1 - (lg_sl ([.ref h0])).length) Slot.unset).toArray = ls at hl ⊢
  have hl : lv_has ls 1 [(0, .ref h0)] := hl
  refine lv_aload_n hx hb dX8_init_0 rfl (lv_at hl 0 rfl) ?_
  refine W.objInit hx hb hown (hts _ mw_X8_init_0) (hts _ mw_X8_init_1) (hts _ mw_X8_init_2) rfl (hl.1.trans hml.symm) rfl dX8_init_1 (Nat.le_of_ble_eq_true rfl) (Nat.le_of_ble_eq_true rfl) ?_
  refine W.eq (g2 := F0 m 4 ls []) rfl ?_
  refine lv_aload_n hx hb dX8_init_4 rfl (lv_at hl 0 rfl) ?_
  refine lv_bipush (v := 9) hx hb dX8_init_5 (by decide +kernel) ?_
  refine pf_newI (N' := 9) hx hb (hts _ mw_X8_init_3) hK hP hD hS hA 0 rfl (by decide +kernel) (by decide +kernel) (by decide) (Nat.le_of_ble_eq_true rfl) (Nat.le_of_ble_eq_true rfl) dX8_init_7 (fun q1 H hP hD hS => ?_)
  have hP : va_P (dC, dI) pf_cls [(h0, .inr (8, [.int 0, .null, .null, .null, .null, .null, .null, .null])), (q1, .inl (cI, 9, .inl (fun _ => 0)))] H := hP
  have hD : va_D A [(h0, .inr (8, [.int 0, .null, .null, .null, .null, .null, .null, .null])), (q1, .inl (cI, 9, .inl (fun _ => 0)))] := hD
  refine va_putF (D := (dC, dI)) (ci := 8) (v := .ref q1) (ty := .array .int) (C := RX8) (T := TX8) (N := 8) hx hb hts ic_X8_init_X8 tyX8 tyX8_ok nmX8 hown hK hP hD hS 0 rfl rfl 1 (by decide) (hts _ mw_X8_init_4) (fun _ h9 => h9) rfl hin rfl (by decide +kernel) rfl rfl (Nat.le_of_ble_eq_true rfl) dX8_init_9 (fun H locs hP hD hS => ?_)
  have hP : va_P (dC, dI) pf_cls [(h0, .inr (8, [.int 0, .ref q1, .null, .null, .null, .null, .null, .null])), (q1, .inl (cI, 9, .inl (fun _ => 0)))] H := hP
  have hD : va_D A [(h0, .inr (8, [.int 0, .ref q1, .null, .null, .null, .null, .null, .null])), (q1, .inl (cI, 9, .inl (fun _ => 0)))] := hD
  refine lv_aload_n hx hb dX8_init_12 rfl (lv_at hl 0 rfl) ?_
  refine lv_bipush (v := 9) hx hb dX8_init_13 (by decide +kernel) ?_
  refine pf_newI (N' := 9) hx hb (hts _ mw_X8_init_3) hK hP hD hS hA 0 rfl (by decide +kernel) (by decide +kernel) (by decide) (Nat.le_of_ble_eq_true rfl) (Nat.le_of_ble_eq_true rfl) dX8_init_15 (fun q2 H hP hD hS => ?_)
  have hP : va_P (dC, dI) pf_cls [(h0, .inr (8, [.int 0, .ref q1, .null, .null, .null, .null, .null, .null])), (q1, .inl (cI, 9, .inl (fun _ => 0))), (q2, .inl (cI, 9, .inl (fun _ => 0)))] H := hP
  have hD : va_D A [(h0, .inr (8, [.int 0, .ref q1, .null, .null, .null, .null, .null, .null])), (q1, .inl (cI, 9, .inl (fun _ => 0))), (q2, .inl (cI, 9, .inl (fun _ => 0)))] := hD
  refine va_putF (D := (dC, dI)) (ci := 8) (v := .ref q2) (ty := .array .int) (C := RX8) (T := TX8) (N := 8) hx hb hts ic_X8_init_X8 tyX8 tyX8_ok nmX8 hown hK hP hD hS 0 rfl rfl 2 (by decide) (hts _ mw_X8_init_5) (fun _ h9 => h9) rfl hin rfl (by decide +kernel) rfl rfl (Nat.le_of_ble_eq_true rfl) dX8_init_17 (fun H locs hP hD hS => ?_)
  have hP : va_P (dC, dI) pf_cls [(h0, .inr (8, [.int 0, .ref q1, .ref q2, .null, .null, .null, .null, .null])), (q1, .inl (cI, 9, .inl (fun _ => 0))), (q2, .inl (cI, 9, .inl (fun _ => 0)))] H := hP
  have hD : va_D A [(h0, .inr (8, [.int 0, .ref q1, .ref q2, .null, .null, .null, .null, .null])), (q1, .inl (cI, 9, .inl (fun _ => 0))), (q2, .inl (cI, 9, .inl (fun _ => 0)))] := hD
  refine lv_aload_n hx hb dX8_init_20 rfl (lv_at hl 0 rfl) ?_
  refine lv_bipush (v := 9) hx hb dX8_init_21 (by decide +kernel) ?_
  refine pf_newI (N' := 9) hx hb (hts _ mw_X8_init_3) hK hP hD hS hA 0 rfl (by decide +kernel) (by decide +kernel) (by decide) (Nat.le_of_ble_eq_true rfl) (Nat.le_of_ble_eq_true rfl) dX8_init_23 (fun q3 H hP hD hS => ?_)
  have hP : va_P (dC, dI) pf_cls [(h0, .inr (8, [.int 0, .ref q1, .ref q2, .null, .null, .null, .null, .null])), (q1, .inl (cI, 9, .inl (fun _ => 0))), (q2, .inl (cI, 9, .inl (fun _ => 0))), (q3, .inl (cI, 9, .inl (fun _ => 0)))] H := hP
  have hD : va_D A [(h0, .inr (8, [.int 0, .ref q1, .ref q2, .null, .null, .null, .null, .null])), (q1, .inl (cI, 9, .inl (fun _ => 0))), (q2, .inl (cI, 9, .inl (fun _ => 0))), (q3, .inl (cI, 9, .inl (fun _ => 0)))] := hD
  refine va_putF (D := (dC, dI)) (ci := 8) (v := .ref q3) (ty := .array .int) (C := RX8) (T := TX8) (N := 8) hx hb hts ic_X8_init_X8 tyX8 tyX8_ok nmX8 hown hK hP hD hS 0 rfl rfl 3 (by decide) (hts _ mw_X8_init_6) (fun _ h9 => h9) rfl hin rfl (by decide +kernel) rfl rfl (Nat.le_of_ble_eq_true rfl) dX8_init_25 (fun H locs hP hD hS => ?_)
  have hP : va_P (dC, dI) pf_cls [(h0, .inr (8, [.int 0, .ref q1, .ref q2, .ref q3, .null, .null, .null, .null])), (q1, .inl (cI, 9, .inl (fun _ => 0))), (q2, .inl (cI, 9, .inl (fun _ => 0))), (q3, .inl (cI, 9, .inl (fun _ => 0)))] H := hP
  have hD : va_D A [(h0, .inr (8, [.int 0, .ref q1, .ref q2, .ref q3, .null, .null, .null, .null])), (q1, .inl (cI, 9, .inl (fun _ => 0))), (q2, .inl (cI, 9, .inl (fun _ => 0))), (q3, .inl (cI, 9, .inl (fun _ => 0)))] := hD
  refine lv_aload_n hx hb dX8_init_28 rfl (lv_at hl 0 rfl) ?_
  refine lv_bipush (v := 9) hx hb dX8_init_29 (by decide +kernel) ?_
  refine pf_newJ (N' := 9) hx hb (hts _ mw_X8_init_7) hK hP hD hS hA 1 rfl (by decide +kernel) (by decide +kernel) (by decide) (Nat.le_of_ble_eq_true rfl) (Nat.le_of_ble_eq_true rfl) dX8_init_31 (fun q4 H hP hD hS => ?_)
  have hP : va_P (dC, dI) pf_cls [(h0, .inr (8, [.int 0, .ref q1, .ref q2, .ref q3, .null, .null, .null, .null])), (q1, .inl (cI, 9, .inl (fun _ => 0))), (q2, .inl (cI, 9, .inl (fun _ => 0))), (q3, .inl (cI, 9, .inl (fun _ => 0))), (q4, .inl (cJ, 9, .inr (.inl (fun _ => 0))))] H := hP
  have hD : va_D A [(h0, .inr (8, [.int 0, .ref q1, .ref q2, .ref q3, .null, .null, .null, .null])), (q1, .inl (cI, 9, .inl (fun _ => 0))), (q2, .inl (cI, 9, .inl (fun _ => 0))), (q3, .inl (cI, 9, .inl (fun _ => 0))), (q4, .inl (cJ, 9, .inr (.inl (fun _ => 0))))] := hD
  refine va_putF (D := (dC, dI)) (ci := 8) (v := .ref q4) (ty := .array .long) (C := RX8) (T := TX8) (N := 8) hx hb hts ic_X8_init_X8 tyX8 tyX8_ok nmX8 hown hK hP hD hS 0 rfl rfl 4 (by decide) (hts _ mw_X8_init_8) (fun _ h9 => h9) rfl hin rfl (by decide +kernel) rfl rfl (Nat.le_of_ble_eq_true rfl) dX8_init_33 (fun H locs hP hD hS => ?_)
  have hP : va_P (dC, dI) pf_cls [(h0, .inr (8, [.int 0, .ref q1, .ref q2, .ref q3, .ref q4, .null, .null, .null])), (q1, .inl (cI, 9, .inl (fun _ => 0))), (q2, .inl (cI, 9, .inl (fun _ => 0))), (q3, .inl (cI, 9, .inl (fun _ => 0))), (q4, .inl (cJ, 9, .inr (.inl (fun _ => 0))))] H := hP
  have hD : va_D A [(h0, .inr (8, [.int 0, .ref q1, .ref q2, .ref q3, .ref q4, .null, .null, .null])), (q1, .inl (cI, 9, .inl (fun _ => 0))), (q2, .inl (cI, 9, .inl (fun _ => 0))), (q3, .inl (cI, 9, .inl (fun _ => 0))), (q4, .inl (cJ, 9, .inr (.inl (fun _ => 0))))] := hD
  refine lv_aload_n hx hb dX8_init_36 rfl (lv_at hl 0 rfl) ?_
  refine lv_bipush (v := 9) hx hb dX8_init_37 (by decide +kernel) ?_
  refine pf_newI (N' := 9) hx hb (hts _ mw_X8_init_3) hK hP hD hS hA 0 rfl (by decide +kernel) (by decide +kernel) (by decide) (Nat.le_of_ble_eq_true rfl) (Nat.le_of_ble_eq_true rfl) dX8_init_39 (fun q5 H hP hD hS => ?_)
  have hP : va_P (dC, dI) pf_cls [(h0, .inr (8, [.int 0, .ref q1, .ref q2, .ref q3, .ref q4, .null, .null, .null])), (q1, .inl (cI, 9, .inl (fun _ => 0))), (q2, .inl (cI, 9, .inl (fun _ => 0))), (q3, .inl (cI, 9, .inl (fun _ => 0))), (q4, .inl (cJ, 9, .inr (.inl (fun _ => 0)))), (q5, .inl (cI, 9, .inl (fun _ => 0)))] H := hP
  have hD : va_D A [(h0, .inr (8, [.int 0, .ref q1, .ref q2, .ref q3, .ref q4, .null, .null, .null])), (q1, .inl (cI, 9, .inl (fun _ => 0))), (q2, .inl (cI, 9, .inl (fun _ => 0))), (q3, .inl (cI, 9, .inl (fun _ => 0))), (q4, .inl (cJ, 9, .inr (.inl (fun _ => 0)))), (q5, .inl (cI, 9, .inl (fun _ => 0)))] := hD
  refine va_putF (D := (dC, dI)) (ci := 8) (v := .ref q5) (ty := .array .int) (C := RX8) (T := TX8) (N := 8) hx hb hts ic_X8_init_X8 tyX8 tyX8_ok nmX8 hown hK hP hD hS 0 rfl rfl 5 (by decide) (hts _ mw_X8_init_9) (fun _ h9 => h9) rfl hin rfl (by decide +kernel) rfl rfl (Nat.le_of_ble_eq_true rfl) dX8_init_41 (fun H locs hP hD hS => ?_)
  have hP : va_P (dC, dI) pf_cls [(h0, .inr (8, [.int 0, .ref q1, .ref q2, .ref q3, .ref q4, .ref q5, .null, .null])), (q1, .inl (cI, 9, .inl (fun _ => 0))), (q2, .inl (cI, 9, .inl (fun _ => 0))), (q3, .inl (cI, 9, .inl (fun _ => 0))), (q4, .inl (cJ, 9, .inr (.inl (fun _ => 0)))), (q5, .inl (cI, 9, .inl (fun _ => 0)))] H := hP
  have hD : va_D A [(h0, .inr (8, [.int 0, .ref q1, .ref q2, .ref q3, .ref q4, .ref q5, .null, .null])), (q1, .inl (cI, 9, .inl (fun _ => 0))), (q2, .inl (cI, 9, .inl (fun _ => 0))), (q3, .inl (cI, 9, .inl (fun _ => 0))), (q4, .inl (cJ, 9, .inr (.inl (fun _ => 0)))), (q5, .inl (cI, 9, .inl (fun _ => 0)))] := hD
  refine lv_aload_n hx hb dX8_init_44 rfl (lv_at hl 0 rfl) ?_
  refine lv_bipush (v := 9) hx hb dX8_init_45 (by decide +kernel) ?_
  refine pf_newI (N' := 9) hx hb (hts _ mw_X8_init_3) hK hP hD hS hA 0 rfl (by decide +kernel) (by decide +kernel) (by decide) (Nat.le_of_ble_eq_true rfl) (Nat.le_of_ble_eq_true rfl) dX8_init_47 (fun q6 H hP hD hS => ?_)
  have hP : va_P (dC, dI) pf_cls [(h0, .inr (8, [.int 0, .ref q1, .ref q2, .ref q3, .ref q4, .ref q5, .null, .null])), (q1, .inl (cI, 9, .inl (fun _ => 0))), (q2, .inl (cI, 9, .inl (fun _ => 0))), (q3, .inl (cI, 9, .inl (fun _ => 0))), (q4, .inl (cJ, 9, .inr (.inl (fun _ => 0)))), (q5, .inl (cI, 9, .inl (fun _ => 0))), (q6, .inl (cI, 9, .inl (fun _ => 0)))] H := hP
  have hD : va_D A [(h0, .inr (8, [.int 0, .ref q1, .ref q2, .ref q3, .ref q4, .ref q5, .null, .null])), (q1, .inl (cI, 9, .inl (fun _ => 0))), (q2, .inl (cI, 9, .inl (fun _ => 0))), (q3, .inl (cI, 9, .inl (fun _ => 0))), (q4, .inl (cJ, 9, .inr (.inl (fun _ => 0)))), (q5, .inl (cI, 9, .inl (fun _ => 0))), (q6, .inl (cI, 9, .inl (fun _ => 0)))] := hD
  refine va_putF (D := (dC, dI)) (ci := 8) (v := .ref q6) (ty := .array .int) (C := RX8) (T := TX8) (N := 8) hx hb hts ic_X8_init_X8 tyX8 tyX8_ok nmX8 hown hK hP hD hS 0 rfl rfl 6 (by decide) (hts _ mw_X8_init_10) (fun _ h9 => h9) rfl hin rfl (by decide +kernel) rfl rfl (Nat.le_of_ble_eq_true rfl) dX8_init_49 (fun H locs hP hD hS => ?_)
  have hP : va_P (dC, dI) pf_cls [(h0, .inr (8, [.int 0, .ref q1, .ref q2, .ref q3, .ref q4, .ref q5, .ref q6, .null])), (q1, .inl (cI, 9, .inl (fun _ => 0))), (q2, .inl (cI, 9, .inl (fun _ => 0))), (q3, .inl (cI, 9, .inl (fun _ => 0))), (q4, .inl (cJ, 9, .inr (.inl (fun _ => 0)))), (q5, .inl (cI, 9, .inl (fun _ => 0))), (q6, .inl (cI, 9, .inl (fun _ => 0)))] H := hP
  have hD : va_D A [(h0, .inr (8, [.int 0, .ref q1, .ref q2, .ref q3, .ref q4, .ref q5, .ref q6, .null])), (q1, .inl (cI, 9, .inl (fun _ => 0))), (q2, .inl (cI, 9, .inl (fun _ => 0))), (q3, .inl (cI, 9, .inl (fun _ => 0))), (q4, .inl (cJ, 9, .inr (.inl (fun _ => 0)))), (q5, .inl (cI, 9, .inl (fun _ => 0))), (q6, .inl (cI, 9, .inl (fun _ => 0)))] := hD
  refine lv_aload_n hx hb dX8_init_52 rfl (lv_at hl 0 rfl) ?_
  refine lv_bipush (v := 9) hx hb dX8_init_53 (by decide +kernel) ?_
  refine pf_newI (N' := 9) hx hb (hts _ mw_X8_init_3) hK hP hD hS hA 0 rfl (by decide +kernel) (by decide +kernel) (by decide) (Nat.le_of_ble_eq_true rfl) (Nat.le_of_ble_eq_true rfl) dX8_init_55 (fun q7 H hP hD hS => ?_)
  have hP : va_P (dC, dI) pf_cls [(h0, .inr (8, [.int 0, .ref q1, .ref q2, .ref q3, .ref q4, .ref q5, .ref q6, .null])), (q1, .inl (cI, 9, .inl (fun _ => 0))), (q2, .inl (cI, 9, .inl (fun _ => 0))), (q3, .inl (cI, 9, .inl (fun _ => 0))), (q4, .inl (cJ, 9, .inr (.inl (fun _ => 0)))), (q5, .inl (cI, 9, .inl (fun _ => 0))), (q6, .inl (cI, 9, .inl (fun _ => 0))), (q7, .inl (cI, 9, .inl (fun _ => 0)))] H := hP
  have hD : va_D A [(h0, .inr (8, [.int 0, .ref q1, .ref q2, .ref q3, .ref q4, .ref q5, .ref q6, .null])), (q1, .inl (cI, 9, .inl (fun _ => 0))), (q2, .inl (cI, 9, .inl (fun _ => 0))), (q3, .inl (cI, 9, .inl (fun _ => 0))), (q4, .inl (cJ, 9, .inr (.inl (fun _ => 0)))), (q5, .inl (cI, 9, .inl (fun _ => 0))), (q6, .inl (cI, 9, .inl (fun _ => 0))), (q7, .inl (cI, 9, .inl (fun _ => 0)))] := hD
  refine va_putF (D := (dC, dI)) (ci := 8) (v := .ref q7) (ty := .array .int) (C := RX8) (T := TX8) (N := 8) hx hb hts ic_X8_init_X8 tyX8 tyX8_ok nmX8 hown hK hP hD hS 0 rfl rfl 7 (by decide) (hts _ mw_X8_init_11) (fun _ h9 => h9) rfl hin rfl (by decide +kernel) rfl rfl (Nat.le_of_ble_eq_true rfl) dX8_init_57 (fun H locs hP hD hS => ?_)
  have hP : va_P (dC, dI) pf_cls [(h0, .inr (8, [.int 0, .ref q1, .ref q2, .ref q3, .ref q4, .ref q5, .ref q6, .ref q7])), (q1, .inl (cI, 9, .inl (fun _ => 0))), (q2, .inl (cI, 9, .inl (fun _ => 0))), (q3, .inl (cI, 9, .inl (fun _ => 0))), (q4, .inl (cJ, 9, .inr (.inl (fun _ => 0)))), (q5, .inl (cI, 9, .inl (fun _ => 0))), (q6, .inl (cI, 9, .inl (fun _ => 0))), (q7, .inl (cI, 9, .inl (fun _ => 0)))] H := hP
  have hD : va_D A [(h0, .inr (8, [.int 0, .ref q1, .ref q2, .ref q3, .ref q4, .ref q5, .ref q6, .ref q7])), (q1, .inl (cI, 9, .inl (fun _ => 0))), (q2, .inl (cI, 9, .inl (fun _ => 0))), (q3, .inl (cI, 9, .inl (fun _ => 0))), (q4, .inl (cJ, 9, .inr (.inl (fun _ => 0)))), (q5, .inl (cI, 9, .inl (fun _ => 0))), (q6, .inl (cI, 9, .inl (fun _ => 0))), (q7, .inl (cI, 9, .inl (fun _ => 0)))] := hD
  have hP9 := hP.sub (ws' := [(h0, .inr (8, [.int 0, .ref q1, .ref q2, .ref q3, .ref q4, .ref q5, .ref q6, .ref q7])), (q1, .inl (cI, 9, .inl (fun _ => 0))), (q2, .inl (cI, 9, .inl (fun _ => 0))), (q3, .inl (cI, 9, .inl (fun _ => 0))), (q4, .inl (cJ, 9, .inr (.inl (fun _ => 0)))), (q5, .inl (cI, 9, .inl (fun _ => 0))), (q6, .inl (cI, 9, .inl (fun _ => 0))), (q7, .inl (cI, 9, .inl (fun _ => 0)))]) [0, 1, 2, 3, 4, 5, 6, 7] rfl
  have hD9 := hD.sub (ws' := [(h0, .inr (8, [.int 0, .ref q1, .ref q2, .ref q3, .ref q4, .ref q5, .ref q6, .ref q7])), (q1, .inl (cI, 9, .inl (fun _ => 0))), (q2, .inl (cI, 9, .inl (fun _ => 0))), (q3, .inl (cI, 9, .inl (fun _ => 0))), (q4, .inl (cJ, 9, .inr (.inl (fun _ => 0)))), (q5, .inl (cI, 9, .inl (fun _ => 0))), (q6, .inl (cI, 9, .inl (fun _ => 0))), (q7, .inl (cI, 9, .inl (fun _ => 0)))]) [0, 1, 2, 3, 4, 5, 6, 7] (by decide) rfl
  refine W.widen (k := 7) (n := 63) (Nat.le_of_ble_eq_true rfl) (Nat.le_of_ble_eq_true rfl) ?_
  exact W.vret hx hb hr (fun t ht hW => ⟨⟨(), rfl, trivial, q1, q2, q3, q4, q5, q6, q7, (by rw [ht]; exact hP9), hD9⟩, hS.F ht⟩) hS.2.2 dX8_init_60
set_option maxHeartbeats 40000000 in
set_option maxRecDepth 100000 in
theorem c_Arcs_init (l : Launch) (dC : Nat → ClassId) (dI : Nat → Nat → Nat) (cI cJ cZ cO : ClassId) (sz : Nat) (h0 : Nat)  : Met l yX0_init wsX0_init ({ frames := 1, cells := 6, slots := 168, locals := 20 }) (va_Pc [.ref h0] (fun U => U.heap.size = sz ∧ va_P (dC, dI) pf_cls [(h0, .inr (0, [.int 0, .int 0, .null, .null, .null, .null, .null, .null]))] U.heap ∧ va_K (dC, dI) pf_cls (pf_ty cI cJ cZ cO) U ∧ va_D (fun _ => True) [(h0, .inr (0, [.int 0, .int 0, .null, .null, .null, .null, .null, .null]))])) (va_Qv (fun (_ : Unit) => True) (fun (_ : Unit) (t : State) => ∃ (q1 q2 q3 q4 q5 q6 : Nat), va_P (dC, dI) pf_cls [(h0, .inr (0, [.int 0, .int 0, .ref q1, .ref q2, .ref q3, .ref q4, .ref q5, .ref q6])), (q1, .inl (cI, 28, .inl (fun _ => 0))), (q2, .inl (cI, 28, .inl (fun _ => 0))), (q3, .inl (cJ, 28, .inr (.inl (fun _ => 0)))), (q4, .inl (cJ, 28, .inr (.inl (fun _ => 0)))), (q5, .inl (cJ, 28, .inr (.inl (fun _ => 0)))), (q6, .inl (cI, 28, .inl (fun _ => 0)))] t.heap ∧ va_D (va_A [(h0, .inr (0, [.int 0, .int 0, .null, .null, .null, .null, .null, .null]))] sz) [(h0, .inr (0, [.int 0, .int 0, .ref q1, .ref q2, .ref q3, .ref q4, .ref q5, .ref q6])), (q1, .inl (cI, 28, .inl (fun _ => 0))), (q2, .inl (cI, 28, .inl (fun _ => 0))), (q3, .inl (cJ, 28, .inr (.inl (fun _ => 0)))), (q4, .inl (cJ, 28, .inr (.inl (fun _ => 0)))), (q5, .inl (cJ, 28, .inr (.inl (fun _ => 0)))), (q6, .inl (cI, 28, .inl (fun _ => 0)))]) (va_A [(h0, .inr (0, [.int 0, .int 0, .null, .null, .null, .null, .null, .null]))] sz)) 6 168 (va_A [(h0, .inr (0, [.int 0, .int 0, .null, .null, .null, .null, .null, .null]))] sz) := by
  refine Met.ofW (cc := cX0_init) (maxL := 1) (ret := none) (by decide) rfl ?_
  intro p e s m args below meth c s₁ B hml hv
  obtain ⟨rfl, hsz, hP, hK, hD0⟩ := hv
  have hx := B.exec
  have hb := B.bytes
  have hr := B.returns
  have hts := atoms_spec (ws := wsX0_init) B.pre
  have hown : s.vm.findClass RX0 = some m.cls := findClass_of_methodNamed B.named
  have hlocks := B.notSynchronized
  have hin : meth.name = "<init>" := (name_of_methodNamed B.named B.method).1
  subst hsz
  have hD := hD0.self (sz := s.heap.size)
  generalize hAe : va_A [(h0, .inr (0, [.int 0, .int 0, .null, .null, .null, .null, .null, .null]))] s.heap.size = A at hD ⊢
  have hA : ∀ q : Nat, s.heap.size ≤ q → A q := fun q h => by rw [← hAe]; exact Or.inr h
  have hS : va_S A s.heap s.heap [] := va_S.rf
  have hP : va_P (dC, dI) pf_cls [(h0, .inr (0, [.int 0, .int 0, .null, .null, .null, .null, .null, .null]))] s.heap := hP
  have hl := lv_entry ([.ref h0]) (n := 1) (Nat.le_of_ble_eq_true rfl)
  rw [lg_entry_eq]
  generalize (lg_sl ([.ref h0]) ++ List.replicate (1 - (lg_sl ([.ref h0])).length) Slot.unset).toArray = ls at hl ⊢
  have hl : lv_has ls 1 [(0, .ref h0)] := hl
  refine lv_aload_n hx hb dX0_init_0 rfl (lv_at hl 0 rfl) ?_
  refine W.objInit hx hb hown (hts _ mw_X0_init_0) (hts _ mw_X0_init_1) (hts _ mw_X0_init_2) rfl (hl.1.trans hml.symm) rfl dX0_init_1 (Nat.le_of_ble_eq_true rfl) (Nat.le_of_ble_eq_true rfl) ?_
  refine W.eq (g2 := F0 m 4 ls []) rfl ?_
  refine lv_aload_n hx hb dX0_init_4 rfl (lv_at hl 0 rfl) ?_
  refine lv_bipush (v := 28) hx hb dX0_init_5 (by decide +kernel) ?_
  refine pf_newI (N' := 28) hx hb (hts _ mw_X0_init_3) hK hP hD hS hA 0 rfl (by decide +kernel) (by decide +kernel) (by decide) (Nat.le_of_ble_eq_true rfl) (Nat.le_of_ble_eq_true rfl) dX0_init_7 (fun q1 H hP hD hS => ?_)
  have hP : va_P (dC, dI) pf_cls [(h0, .inr (0, [.int 0, .int 0, .null, .null, .null, .null, .null, .null])), (q1, .inl (cI, 28, .inl (fun _ => 0)))] H := hP
  have hD : va_D A [(h0, .inr (0, [.int 0, .int 0, .null, .null, .null, .null, .null, .null])), (q1, .inl (cI, 28, .inl (fun _ => 0)))] := hD
  refine va_putF (D := (dC, dI)) (ci := 0) (v := .ref q1) (ty := .array .int) (C := RX0) (T := TX0) (N := 8) hx hb hts ic_X0_init_X0 tyX0 tyX0_ok nmX0 hown hK hP hD hS 0 rfl rfl 2 (by decide) (hts _ mw_X0_init_4) (fun _ h9 => h9) rfl hin rfl (by decide +kernel) rfl rfl (Nat.le_of_ble_eq_true rfl) dX0_init_9 (fun H locs hP hD hS => ?_)
  have hP : va_P (dC, dI) pf_cls [(h0, .inr (0, [.int 0, .int 0, .ref q1, .null, .null, .null, .null, .null])), (q1, .inl (cI, 28, .inl (fun _ => 0)))] H := hP
  have hD : va_D A [(h0, .inr (0, [.int 0, .int 0, .ref q1, .null, .null, .null, .null, .null])), (q1, .inl (cI, 28, .inl (fun _ => 0)))] := hD
  refine lv_aload_n hx hb dX0_init_12 rfl (lv_at hl 0 rfl) ?_
  refine lv_bipush (v := 28) hx hb dX0_init_13 (by decide +kernel) ?_
  refine pf_newI (N' := 28) hx hb (hts _ mw_X0_init_3) hK hP hD hS hA 0 rfl (by decide +kernel) (by decide +kernel) (by decide) (Nat.le_of_ble_eq_true rfl) (Nat.le_of_ble_eq_true rfl) dX0_init_15 (fun q2 H hP hD hS => ?_)
  have hP : va_P (dC, dI) pf_cls [(h0, .inr (0, [.int 0, .int 0, .ref q1, .null, .null, .null, .null, .null])), (q1, .inl (cI, 28, .inl (fun _ => 0))), (q2, .inl (cI, 28, .inl (fun _ => 0)))] H := hP
  have hD : va_D A [(h0, .inr (0, [.int 0, .int 0, .ref q1, .null, .null, .null, .null, .null])), (q1, .inl (cI, 28, .inl (fun _ => 0))), (q2, .inl (cI, 28, .inl (fun _ => 0)))] := hD
  refine va_putF (D := (dC, dI)) (ci := 0) (v := .ref q2) (ty := .array .int) (C := RX0) (T := TX0) (N := 8) hx hb hts ic_X0_init_X0 tyX0 tyX0_ok nmX0 hown hK hP hD hS 0 rfl rfl 3 (by decide) (hts _ mw_X0_init_5) (fun _ h9 => h9) rfl hin rfl (by decide +kernel) rfl rfl (Nat.le_of_ble_eq_true rfl) dX0_init_17 (fun H locs hP hD hS => ?_)
  have hP : va_P (dC, dI) pf_cls [(h0, .inr (0, [.int 0, .int 0, .ref q1, .ref q2, .null, .null, .null, .null])), (q1, .inl (cI, 28, .inl (fun _ => 0))), (q2, .inl (cI, 28, .inl (fun _ => 0)))] H := hP
  have hD : va_D A [(h0, .inr (0, [.int 0, .int 0, .ref q1, .ref q2, .null, .null, .null, .null])), (q1, .inl (cI, 28, .inl (fun _ => 0))), (q2, .inl (cI, 28, .inl (fun _ => 0)))] := hD
  refine lv_aload_n hx hb dX0_init_20 rfl (lv_at hl 0 rfl) ?_
  refine lv_bipush (v := 28) hx hb dX0_init_21 (by decide +kernel) ?_
  refine pf_newJ (N' := 28) hx hb (hts _ mw_X0_init_6) hK hP hD hS hA 1 rfl (by decide +kernel) (by decide +kernel) (by decide) (Nat.le_of_ble_eq_true rfl) (Nat.le_of_ble_eq_true rfl) dX0_init_23 (fun q3 H hP hD hS => ?_)
  have hP : va_P (dC, dI) pf_cls [(h0, .inr (0, [.int 0, .int 0, .ref q1, .ref q2, .null, .null, .null, .null])), (q1, .inl (cI, 28, .inl (fun _ => 0))), (q2, .inl (cI, 28, .inl (fun _ => 0))), (q3, .inl (cJ, 28, .inr (.inl (fun _ => 0))))] H := hP
  have hD : va_D A [(h0, .inr (0, [.int 0, .int 0, .ref q1, .ref q2, .null, .null, .null, .null])), (q1, .inl (cI, 28, .inl (fun _ => 0))), (q2, .inl (cI, 28, .inl (fun _ => 0))), (q3, .inl (cJ, 28, .inr (.inl (fun _ => 0))))] := hD
  refine va_putF (D := (dC, dI)) (ci := 0) (v := .ref q3) (ty := .array .long) (C := RX0) (T := TX0) (N := 8) hx hb hts ic_X0_init_X0 tyX0 tyX0_ok nmX0 hown hK hP hD hS 0 rfl rfl 4 (by decide) (hts _ mw_X0_init_7) (fun _ h9 => h9) rfl hin rfl (by decide +kernel) rfl rfl (Nat.le_of_ble_eq_true rfl) dX0_init_25 (fun H locs hP hD hS => ?_)
  have hP : va_P (dC, dI) pf_cls [(h0, .inr (0, [.int 0, .int 0, .ref q1, .ref q2, .ref q3, .null, .null, .null])), (q1, .inl (cI, 28, .inl (fun _ => 0))), (q2, .inl (cI, 28, .inl (fun _ => 0))), (q3, .inl (cJ, 28, .inr (.inl (fun _ => 0))))] H := hP
  have hD : va_D A [(h0, .inr (0, [.int 0, .int 0, .ref q1, .ref q2, .ref q3, .null, .null, .null])), (q1, .inl (cI, 28, .inl (fun _ => 0))), (q2, .inl (cI, 28, .inl (fun _ => 0))), (q3, .inl (cJ, 28, .inr (.inl (fun _ => 0))))] := hD
  refine lv_aload_n hx hb dX0_init_28 rfl (lv_at hl 0 rfl) ?_
  refine lv_bipush (v := 28) hx hb dX0_init_29 (by decide +kernel) ?_
  refine pf_newJ (N' := 28) hx hb (hts _ mw_X0_init_6) hK hP hD hS hA 1 rfl (by decide +kernel) (by decide +kernel) (by decide) (Nat.le_of_ble_eq_true rfl) (Nat.le_of_ble_eq_true rfl) dX0_init_31 (fun q4 H hP hD hS => ?_)
  have hP : va_P (dC, dI) pf_cls [(h0, .inr (0, [.int 0, .int 0, .ref q1, .ref q2, .ref q3, .null, .null, .null])), (q1, .inl (cI, 28, .inl (fun _ => 0))), (q2, .inl (cI, 28, .inl (fun _ => 0))), (q3, .inl (cJ, 28, .inr (.inl (fun _ => 0)))), (q4, .inl (cJ, 28, .inr (.inl (fun _ => 0))))] H := hP
  have hD : va_D A [(h0, .inr (0, [.int 0, .int 0, .ref q1, .ref q2, .ref q3, .null, .null, .null])), (q1, .inl (cI, 28, .inl (fun _ => 0))), (q2, .inl (cI, 28, .inl (fun _ => 0))), (q3, .inl (cJ, 28, .inr (.inl (fun _ => 0)))), (q4, .inl (cJ, 28, .inr (.inl (fun _ => 0))))] := hD
  refine va_putF (D := (dC, dI)) (ci := 0) (v := .ref q4) (ty := .array .long) (C := RX0) (T := TX0) (N := 8) hx hb hts ic_X0_init_X0 tyX0 tyX0_ok nmX0 hown hK hP hD hS 0 rfl rfl 5 (by decide) (hts _ mw_X0_init_8) (fun _ h9 => h9) rfl hin rfl (by decide +kernel) rfl rfl (Nat.le_of_ble_eq_true rfl) dX0_init_33 (fun H locs hP hD hS => ?_)
  have hP : va_P (dC, dI) pf_cls [(h0, .inr (0, [.int 0, .int 0, .ref q1, .ref q2, .ref q3, .ref q4, .null, .null])), (q1, .inl (cI, 28, .inl (fun _ => 0))), (q2, .inl (cI, 28, .inl (fun _ => 0))), (q3, .inl (cJ, 28, .inr (.inl (fun _ => 0)))), (q4, .inl (cJ, 28, .inr (.inl (fun _ => 0))))] H := hP
  have hD : va_D A [(h0, .inr (0, [.int 0, .int 0, .ref q1, .ref q2, .ref q3, .ref q4, .null, .null])), (q1, .inl (cI, 28, .inl (fun _ => 0))), (q2, .inl (cI, 28, .inl (fun _ => 0))), (q3, .inl (cJ, 28, .inr (.inl (fun _ => 0)))), (q4, .inl (cJ, 28, .inr (.inl (fun _ => 0))))] := hD
  refine lv_aload_n hx hb dX0_init_36 rfl (lv_at hl 0 rfl) ?_
  refine lv_bipush (v := 28) hx hb dX0_init_37 (by decide +kernel) ?_
  refine pf_newJ (N' := 28) hx hb (hts _ mw_X0_init_6) hK hP hD hS hA 1 rfl (by decide +kernel) (by decide +kernel) (by decide) (Nat.le_of_ble_eq_true rfl) (Nat.le_of_ble_eq_true rfl) dX0_init_39 (fun q5 H hP hD hS => ?_)
  have hP : va_P (dC, dI) pf_cls [(h0, .inr (0, [.int 0, .int 0, .ref q1, .ref q2, .ref q3, .ref q4, .null, .null])), (q1, .inl (cI, 28, .inl (fun _ => 0))), (q2, .inl (cI, 28, .inl (fun _ => 0))), (q3, .inl (cJ, 28, .inr (.inl (fun _ => 0)))), (q4, .inl (cJ, 28, .inr (.inl (fun _ => 0)))), (q5, .inl (cJ, 28, .inr (.inl (fun _ => 0))))] H := hP
  have hD : va_D A [(h0, .inr (0, [.int 0, .int 0, .ref q1, .ref q2, .ref q3, .ref q4, .null, .null])), (q1, .inl (cI, 28, .inl (fun _ => 0))), (q2, .inl (cI, 28, .inl (fun _ => 0))), (q3, .inl (cJ, 28, .inr (.inl (fun _ => 0)))), (q4, .inl (cJ, 28, .inr (.inl (fun _ => 0)))), (q5, .inl (cJ, 28, .inr (.inl (fun _ => 0))))] := hD
  refine va_putF (D := (dC, dI)) (ci := 0) (v := .ref q5) (ty := .array .long) (C := RX0) (T := TX0) (N := 8) hx hb hts ic_X0_init_X0 tyX0 tyX0_ok nmX0 hown hK hP hD hS 0 rfl rfl 6 (by decide) (hts _ mw_X0_init_9) (fun _ h9 => h9) rfl hin rfl (by decide +kernel) rfl rfl (Nat.le_of_ble_eq_true rfl) dX0_init_41 (fun H locs hP hD hS => ?_)
  have hP : va_P (dC, dI) pf_cls [(h0, .inr (0, [.int 0, .int 0, .ref q1, .ref q2, .ref q3, .ref q4, .ref q5, .null])), (q1, .inl (cI, 28, .inl (fun _ => 0))), (q2, .inl (cI, 28, .inl (fun _ => 0))), (q3, .inl (cJ, 28, .inr (.inl (fun _ => 0)))), (q4, .inl (cJ, 28, .inr (.inl (fun _ => 0)))), (q5, .inl (cJ, 28, .inr (.inl (fun _ => 0))))] H := hP
  have hD : va_D A [(h0, .inr (0, [.int 0, .int 0, .ref q1, .ref q2, .ref q3, .ref q4, .ref q5, .null])), (q1, .inl (cI, 28, .inl (fun _ => 0))), (q2, .inl (cI, 28, .inl (fun _ => 0))), (q3, .inl (cJ, 28, .inr (.inl (fun _ => 0)))), (q4, .inl (cJ, 28, .inr (.inl (fun _ => 0)))), (q5, .inl (cJ, 28, .inr (.inl (fun _ => 0))))] := hD
  refine lv_aload_n hx hb dX0_init_44 rfl (lv_at hl 0 rfl) ?_
  refine lv_bipush (v := 28) hx hb dX0_init_45 (by decide +kernel) ?_
  refine pf_newI (N' := 28) hx hb (hts _ mw_X0_init_3) hK hP hD hS hA 0 rfl (by decide +kernel) (by decide +kernel) (by decide) (Nat.le_of_ble_eq_true rfl) (Nat.le_of_ble_eq_true rfl) dX0_init_47 (fun q6 H hP hD hS => ?_)
  have hP : va_P (dC, dI) pf_cls [(h0, .inr (0, [.int 0, .int 0, .ref q1, .ref q2, .ref q3, .ref q4, .ref q5, .null])), (q1, .inl (cI, 28, .inl (fun _ => 0))), (q2, .inl (cI, 28, .inl (fun _ => 0))), (q3, .inl (cJ, 28, .inr (.inl (fun _ => 0)))), (q4, .inl (cJ, 28, .inr (.inl (fun _ => 0)))), (q5, .inl (cJ, 28, .inr (.inl (fun _ => 0)))), (q6, .inl (cI, 28, .inl (fun _ => 0)))] H := hP
  have hD : va_D A [(h0, .inr (0, [.int 0, .int 0, .ref q1, .ref q2, .ref q3, .ref q4, .ref q5, .null])), (q1, .inl (cI, 28, .inl (fun _ => 0))), (q2, .inl (cI, 28, .inl (fun _ => 0))), (q3, .inl (cJ, 28, .inr (.inl (fun _ => 0)))), (q4, .inl (cJ, 28, .inr (.inl (fun _ => 0)))), (q5, .inl (cJ, 28, .inr (.inl (fun _ => 0)))), (q6, .inl (cI, 28, .inl (fun _ => 0)))] := hD
  refine va_putF (D := (dC, dI)) (ci := 0) (v := .ref q6) (ty := .array .int) (C := RX0) (T := TX0) (N := 8) hx hb hts ic_X0_init_X0 tyX0 tyX0_ok nmX0 hown hK hP hD hS 0 rfl rfl 7 (by decide) (hts _ mw_X0_init_10) (fun _ h9 => h9) rfl hin rfl (by decide +kernel) rfl rfl (Nat.le_of_ble_eq_true rfl) dX0_init_49 (fun H locs hP hD hS => ?_)
  have hP : va_P (dC, dI) pf_cls [(h0, .inr (0, [.int 0, .int 0, .ref q1, .ref q2, .ref q3, .ref q4, .ref q5, .ref q6])), (q1, .inl (cI, 28, .inl (fun _ => 0))), (q2, .inl (cI, 28, .inl (fun _ => 0))), (q3, .inl (cJ, 28, .inr (.inl (fun _ => 0)))), (q4, .inl (cJ, 28, .inr (.inl (fun _ => 0)))), (q5, .inl (cJ, 28, .inr (.inl (fun _ => 0)))), (q6, .inl (cI, 28, .inl (fun _ => 0)))] H := hP
  have hD : va_D A [(h0, .inr (0, [.int 0, .int 0, .ref q1, .ref q2, .ref q3, .ref q4, .ref q5, .ref q6])), (q1, .inl (cI, 28, .inl (fun _ => 0))), (q2, .inl (cI, 28, .inl (fun _ => 0))), (q3, .inl (cJ, 28, .inr (.inl (fun _ => 0)))), (q4, .inl (cJ, 28, .inr (.inl (fun _ => 0)))), (q5, .inl (cJ, 28, .inr (.inl (fun _ => 0)))), (q6, .inl (cI, 28, .inl (fun _ => 0)))] := hD
  have hP9 := hP.sub (ws' := [(h0, .inr (0, [.int 0, .int 0, .ref q1, .ref q2, .ref q3, .ref q4, .ref q5, .ref q6])), (q1, .inl (cI, 28, .inl (fun _ => 0))), (q2, .inl (cI, 28, .inl (fun _ => 0))), (q3, .inl (cJ, 28, .inr (.inl (fun _ => 0)))), (q4, .inl (cJ, 28, .inr (.inl (fun _ => 0)))), (q5, .inl (cJ, 28, .inr (.inl (fun _ => 0)))), (q6, .inl (cI, 28, .inl (fun _ => 0)))]) [0, 1, 2, 3, 4, 5, 6] rfl
  have hD9 := hD.sub (ws' := [(h0, .inr (0, [.int 0, .int 0, .ref q1, .ref q2, .ref q3, .ref q4, .ref q5, .ref q6])), (q1, .inl (cI, 28, .inl (fun _ => 0))), (q2, .inl (cI, 28, .inl (fun _ => 0))), (q3, .inl (cJ, 28, .inr (.inl (fun _ => 0)))), (q4, .inl (cJ, 28, .inr (.inl (fun _ => 0)))), (q5, .inl (cJ, 28, .inr (.inl (fun _ => 0)))), (q6, .inl (cI, 28, .inl (fun _ => 0)))]) [0, 1, 2, 3, 4, 5, 6] (by decide) rfl
  refine W.widen (k := 6) (n := 168) (Nat.le_of_ble_eq_true rfl) (Nat.le_of_ble_eq_true rfl) ?_
  exact W.vret hx hb hr (fun t ht hW => ⟨⟨(), rfl, trivial, q1, q2, q3, q4, q5, q6, (by rw [ht]; exact hP9), hD9⟩, hS.F ht⟩) hS.2.2 dX0_init_52
set_option maxHeartbeats 40000000 in
set_option maxRecDepth 100000 in
theorem c_Net_init (l : Launch) (dC : Nat → ClassId) (dI : Nat → Nat → Nat) (cI cJ cZ cO : ClassId) (sz : Nat) (h0 : Nat)  : Met l yX5_init wsX5_init ({ frames := 1, cells := 7, slots := 116, locals := 20 }) (va_Pc [.ref h0] (fun U => U.heap.size = sz ∧ va_P (dC, dI) pf_cls [(h0, .inr (5, [.int 0, .int 0, .int 0, .null, .null, .null, .null, .null, .null, .null]))] U.heap ∧ va_K (dC, dI) pf_cls (pf_ty cI cJ cZ cO) U ∧ va_D (fun _ => True) [(h0, .inr (5, [.int 0, .int 0, .int 0, .null, .null, .null, .null, .null, .null, .null]))])) (va_Qv (fun (_ : Unit) => True) (fun (_ : Unit) (t : State) => ∃ (q1 q2 q3 q4 q5 q6 q7 : Nat), va_P (dC, dI) pf_cls [(h0, .inr (5, [.int 2, .int 0, .int 0, .ref q1, .ref q2, .ref q3, .ref q4, .ref q5, .ref q6, .ref q7])), (q1, .inl (cI, 8, .inl (fun _ => 0))), (q2, .inl (cI, 8, .inl (fun _ => 0))), (q3, .inl (cI, 20, .inl (fun _ => 0))), (q4, .inl (cI, 20, .inl (fun _ => 0))), (q5, .inl (cI, 20, .inl (fun _ => 0))), (q6, .inl (cI, 20, .inl (fun _ => 0))), (q7, .inl (cI, 20, .inl (fun _ => 0)))] t.heap ∧ va_D (va_A [(h0, .inr (5, [.int 0, .int 0, .int 0, .null, .null, .null, .null, .null, .null, .null]))] sz) [(h0, .inr (5, [.int 2, .int 0, .int 0, .ref q1, .ref q2, .ref q3, .ref q4, .ref q5, .ref q6, .ref q7])), (q1, .inl (cI, 8, .inl (fun _ => 0))), (q2, .inl (cI, 8, .inl (fun _ => 0))), (q3, .inl (cI, 20, .inl (fun _ => 0))), (q4, .inl (cI, 20, .inl (fun _ => 0))), (q5, .inl (cI, 20, .inl (fun _ => 0))), (q6, .inl (cI, 20, .inl (fun _ => 0))), (q7, .inl (cI, 20, .inl (fun _ => 0)))]) (va_A [(h0, .inr (5, [.int 0, .int 0, .int 0, .null, .null, .null, .null, .null, .null, .null]))] sz)) 7 116 (va_A [(h0, .inr (5, [.int 0, .int 0, .int 0, .null, .null, .null, .null, .null, .null, .null]))] sz) := by
  refine Met.ofW (cc := cX5_init) (maxL := 1) (ret := none) (by decide) rfl ?_
  intro p e s m args below meth c s₁ B hml hv
  obtain ⟨rfl, hsz, hP, hK, hD0⟩ := hv
  have hx := B.exec
  have hb := B.bytes
  have hr := B.returns
  have hts := atoms_spec (ws := wsX5_init) B.pre
  have hown : s.vm.findClass RX5 = some m.cls := findClass_of_methodNamed B.named
  have hlocks := B.notSynchronized
  have hin : meth.name = "<init>" := (name_of_methodNamed B.named B.method).1
  subst hsz
  have hD := hD0.self (sz := s.heap.size)
  generalize hAe : va_A [(h0, .inr (5, [.int 0, .int 0, .int 0, .null, .null, .null, .null, .null, .null, .null]))] s.heap.size = A at hD ⊢
  have hA : ∀ q : Nat, s.heap.size ≤ q → A q := fun q h => by rw [← hAe]; exact Or.inr h
  have hS : va_S A s.heap s.heap [] := va_S.rf
  have hP : va_P (dC, dI) pf_cls [(h0, .inr (5, [.int 0, .int 0, .int 0, .null, .null, .null, .null, .null, .null, .null]))] s.heap := hP
  have hl := lv_entry ([.ref h0]) (n := 1) (Nat.le_of_ble_eq_true rfl)
  rw [lg_entry_eq]
  generalize (lg_sl ([.ref h0]) ++ List.replicate (1 - (lg_sl ([.ref h0])).length) Slot.unset).toArray = ls at hl ⊢
  have hl : lv_has ls 1 [(0, .ref h0)] := hl
  refine lv_aload_n hx hb dX5_init_0 rfl (lv_at hl 0 rfl) ?_
  refine W.objInit hx hb hown (hts _ mw_X5_init_0) (hts _ mw_X5_init_1) (hts _ mw_X5_init_2) rfl (hl.1.trans hml.symm) rfl dX5_init_1 (Nat.le_of_ble_eq_true rfl) (Nat.le_of_ble_eq_true rfl) ?_
  refine W.eq (g2 := F0 m 4 ls []) rfl ?_
  refine lv_aload_n hx hb dX5_init_4 rfl (lv_at hl 0 rfl) ?_
  refine lv_iconst (v := 2) hx hb dX5_init_5 (by decide) ?_
  refine va_put (D := (dC, dI)) (ci := 5) (v := .int 2) (ty := .int) (C := RX5) (T := TX5) (N := 10) hx hb hts ic_X5_init_X5 tyX5 tyX5_ok nmX5 hown hK hP hD hS 0 rfl rfl 0 (by decide) (hts _ mw_X5_init_3) (fun _ h9 => h9) rfl (by decide +kernel) rfl rfl (Nat.le_of_ble_eq_true rfl) dX5_init_6 (fun H locs hP hD hS => ?_)
  have hP : va_P (dC, dI) pf_cls [(h0, .inr (5, [.int 2, .int 0, .int 0, .null, .null, .null, .null, .null, .null, .null]))] H := hP
  have hD : va_D A [(h0, .inr (5, [.int 2, .int 0, .int 0, .null, .null, .null, .null, .null, .null, .null]))] := hD
  refine lv_aload_n hx hb dX5_init_9 rfl (lv_at hl 0 rfl) ?_
  refine lv_iconst (v := 0) hx hb dX5_init_10 (by decide) ?_
  refine va_put (D := (dC, dI)) (ci := 5) (v := .int 0) (ty := .int) (C := RX5) (T := TX5) (N := 10) hx hb hts ic_X5_init_X5 tyX5 tyX5_ok nmX5 hown hK hP hD hS 0 rfl rfl 2 (by decide) (hts _ mw_X5_init_4) (fun _ h9 => h9) rfl (by decide +kernel) rfl rfl (Nat.le_of_ble_eq_true rfl) dX5_init_11 (fun H locs hP hD hS => ?_)
  have hP : va_P (dC, dI) pf_cls [(h0, .inr (5, [.int 2, .int 0, .int 0, .null, .null, .null, .null, .null, .null, .null]))] H := hP
  have hD : va_D A [(h0, .inr (5, [.int 2, .int 0, .int 0, .null, .null, .null, .null, .null, .null, .null]))] := hD
  refine lv_aload_n hx hb dX5_init_14 rfl (lv_at hl 0 rfl) ?_
  refine lv_bipush (v := 8) hx hb dX5_init_15 (by decide +kernel) ?_
  refine pf_newI (N' := 8) hx hb (hts _ mw_X5_init_5) hK hP hD hS hA 0 rfl (by decide +kernel) (by decide +kernel) (by decide) (Nat.le_of_ble_eq_true rfl) (Nat.le_of_ble_eq_true rfl) dX5_init_17 (fun q1 H hP hD hS => ?_)
  have hP : va_P (dC, dI) pf_cls [(h0, .inr (5, [.int 2, .int 0, .int 0, .null, .null, .null, .null, .null, .null, .null])), (q1, .inl (cI, 8, .inl (fun _ => 0)))] H := hP
  have hD : va_D A [(h0, .inr (5, [.int 2, .int 0, .int 0, .null, .null, .null, .null, .null, .null, .null])), (q1, .inl (cI, 8, .inl (fun _ => 0)))] := hD
  refine va_putF (D := (dC, dI)) (ci := 5) (v := .ref q1) (ty := .array .int) (C := RX5) (T := TX5) (N := 10) hx hb hts ic_X5_init_X5 tyX5 tyX5_ok nmX5 hown hK hP hD hS 0 rfl rfl 3 (by decide) (hts _ mw_X5_init_6) (fun _ h9 => h9) rfl hin rfl (by decide +kernel) rfl rfl (Nat.le_of_ble_eq_true rfl) dX5_init_19 (fun H locs hP hD hS => ?_)
  have hP : va_P (dC, dI) pf_cls [(h0, .inr (5, [.int 2, .int 0, .int 0, .ref q1, .null, .null, .null, .null, .null, .null])), (q1, .inl (cI, 8, .inl (fun _ => 0)))] H := hP
  have hD : va_D A [(h0, .inr (5, [.int 2, .int 0, .int 0, .ref q1, .null, .null, .null, .null, .null, .null])), (q1, .inl (cI, 8, .inl (fun _ => 0)))] := hD
  refine lv_aload_n hx hb dX5_init_22 rfl (lv_at hl 0 rfl) ?_
  refine lv_bipush (v := 8) hx hb dX5_init_23 (by decide +kernel) ?_
  refine pf_newI (N' := 8) hx hb (hts _ mw_X5_init_5) hK hP hD hS hA 0 rfl (by decide +kernel) (by decide +kernel) (by decide) (Nat.le_of_ble_eq_true rfl) (Nat.le_of_ble_eq_true rfl) dX5_init_25 (fun q2 H hP hD hS => ?_)
  have hP : va_P (dC, dI) pf_cls [(h0, .inr (5, [.int 2, .int 0, .int 0, .ref q1, .null, .null, .null, .null, .null, .null])), (q1, .inl (cI, 8, .inl (fun _ => 0))), (q2, .inl (cI, 8, .inl (fun _ => 0)))] H := hP
  have hD : va_D A [(h0, .inr (5, [.int 2, .int 0, .int 0, .ref q1, .null, .null, .null, .null, .null, .null])), (q1, .inl (cI, 8, .inl (fun _ => 0))), (q2, .inl (cI, 8, .inl (fun _ => 0)))] := hD
  refine va_putF (D := (dC, dI)) (ci := 5) (v := .ref q2) (ty := .array .int) (C := RX5) (T := TX5) (N := 10) hx hb hts ic_X5_init_X5 tyX5 tyX5_ok nmX5 hown hK hP hD hS 0 rfl rfl 4 (by decide) (hts _ mw_X5_init_7) (fun _ h9 => h9) rfl hin rfl (by decide +kernel) rfl rfl (Nat.le_of_ble_eq_true rfl) dX5_init_27 (fun H locs hP hD hS => ?_)
  have hP : va_P (dC, dI) pf_cls [(h0, .inr (5, [.int 2, .int 0, .int 0, .ref q1, .ref q2, .null, .null, .null, .null, .null])), (q1, .inl (cI, 8, .inl (fun _ => 0))), (q2, .inl (cI, 8, .inl (fun _ => 0)))] H := hP
  have hD : va_D A [(h0, .inr (5, [.int 2, .int 0, .int 0, .ref q1, .ref q2, .null, .null, .null, .null, .null])), (q1, .inl (cI, 8, .inl (fun _ => 0))), (q2, .inl (cI, 8, .inl (fun _ => 0)))] := hD
  refine lv_aload_n hx hb dX5_init_30 rfl (lv_at hl 0 rfl) ?_
  refine lv_bipush (v := 20) hx hb dX5_init_31 (by decide +kernel) ?_
  refine pf_newI (N' := 20) hx hb (hts _ mw_X5_init_5) hK hP hD hS hA 0 rfl (by decide +kernel) (by decide +kernel) (by decide) (Nat.le_of_ble_eq_true rfl) (Nat.le_of_ble_eq_true rfl) dX5_init_33 (fun q3 H hP hD hS => ?_)
  have hP : va_P (dC, dI) pf_cls [(h0, .inr (5, [.int 2, .int 0, .int 0, .ref q1, .ref q2, .null, .null, .null, .null, .null])), (q1, .inl (cI, 8, .inl (fun _ => 0))), (q2, .inl (cI, 8, .inl (fun _ => 0))), (q3, .inl (cI, 20, .inl (fun _ => 0)))] H := hP
  have hD : va_D A [(h0, .inr (5, [.int 2, .int 0, .int 0, .ref q1, .ref q2, .null, .null, .null, .null, .null])), (q1, .inl (cI, 8, .inl (fun _ => 0))), (q2, .inl (cI, 8, .inl (fun _ => 0))), (q3, .inl (cI, 20, .inl (fun _ => 0)))] := hD
  refine va_putF (D := (dC, dI)) (ci := 5) (v := .ref q3) (ty := .array .int) (C := RX5) (T := TX5) (N := 10) hx hb hts ic_X5_init_X5 tyX5 tyX5_ok nmX5 hown hK hP hD hS 0 rfl rfl 5 (by decide) (hts _ mw_X5_init_8) (fun _ h9 => h9) rfl hin rfl (by decide +kernel) rfl rfl (Nat.le_of_ble_eq_true rfl) dX5_init_35 (fun H locs hP hD hS => ?_)
  have hP : va_P (dC, dI) pf_cls [(h0, .inr (5, [.int 2, .int 0, .int 0, .ref q1, .ref q2, .ref q3, .null, .null, .null, .null])), (q1, .inl (cI, 8, .inl (fun _ => 0))), (q2, .inl (cI, 8, .inl (fun _ => 0))), (q3, .inl (cI, 20, .inl (fun _ => 0)))] H := hP
  have hD : va_D A [(h0, .inr (5, [.int 2, .int 0, .int 0, .ref q1, .ref q2, .ref q3, .null, .null, .null, .null])), (q1, .inl (cI, 8, .inl (fun _ => 0))), (q2, .inl (cI, 8, .inl (fun _ => 0))), (q3, .inl (cI, 20, .inl (fun _ => 0)))] := hD
  refine lv_aload_n hx hb dX5_init_38 rfl (lv_at hl 0 rfl) ?_
  refine lv_bipush (v := 20) hx hb dX5_init_39 (by decide +kernel) ?_
  refine pf_newI (N' := 20) hx hb (hts _ mw_X5_init_5) hK hP hD hS hA 0 rfl (by decide +kernel) (by decide +kernel) (by decide) (Nat.le_of_ble_eq_true rfl) (Nat.le_of_ble_eq_true rfl) dX5_init_41 (fun q4 H hP hD hS => ?_)
  have hP : va_P (dC, dI) pf_cls [(h0, .inr (5, [.int 2, .int 0, .int 0, .ref q1, .ref q2, .ref q3, .null, .null, .null, .null])), (q1, .inl (cI, 8, .inl (fun _ => 0))), (q2, .inl (cI, 8, .inl (fun _ => 0))), (q3, .inl (cI, 20, .inl (fun _ => 0))), (q4, .inl (cI, 20, .inl (fun _ => 0)))] H := hP
  have hD : va_D A [(h0, .inr (5, [.int 2, .int 0, .int 0, .ref q1, .ref q2, .ref q3, .null, .null, .null, .null])), (q1, .inl (cI, 8, .inl (fun _ => 0))), (q2, .inl (cI, 8, .inl (fun _ => 0))), (q3, .inl (cI, 20, .inl (fun _ => 0))), (q4, .inl (cI, 20, .inl (fun _ => 0)))] := hD
  refine va_putF (D := (dC, dI)) (ci := 5) (v := .ref q4) (ty := .array .int) (C := RX5) (T := TX5) (N := 10) hx hb hts ic_X5_init_X5 tyX5 tyX5_ok nmX5 hown hK hP hD hS 0 rfl rfl 6 (by decide) (hts _ mw_X5_init_9) (fun _ h9 => h9) rfl hin rfl (by decide +kernel) rfl rfl (Nat.le_of_ble_eq_true rfl) dX5_init_43 (fun H locs hP hD hS => ?_)
  have hP : va_P (dC, dI) pf_cls [(h0, .inr (5, [.int 2, .int 0, .int 0, .ref q1, .ref q2, .ref q3, .ref q4, .null, .null, .null])), (q1, .inl (cI, 8, .inl (fun _ => 0))), (q2, .inl (cI, 8, .inl (fun _ => 0))), (q3, .inl (cI, 20, .inl (fun _ => 0))), (q4, .inl (cI, 20, .inl (fun _ => 0)))] H := hP
  have hD : va_D A [(h0, .inr (5, [.int 2, .int 0, .int 0, .ref q1, .ref q2, .ref q3, .ref q4, .null, .null, .null])), (q1, .inl (cI, 8, .inl (fun _ => 0))), (q2, .inl (cI, 8, .inl (fun _ => 0))), (q3, .inl (cI, 20, .inl (fun _ => 0))), (q4, .inl (cI, 20, .inl (fun _ => 0)))] := hD
  refine lv_aload_n hx hb dX5_init_46 rfl (lv_at hl 0 rfl) ?_
  refine lv_bipush (v := 20) hx hb dX5_init_47 (by decide +kernel) ?_
  refine pf_newI (N' := 20) hx hb (hts _ mw_X5_init_5) hK hP hD hS hA 0 rfl (by decide +kernel) (by decide +kernel) (by decide) (Nat.le_of_ble_eq_true rfl) (Nat.le_of_ble_eq_true rfl) dX5_init_49 (fun q5 H hP hD hS => ?_)
  have hP : va_P (dC, dI) pf_cls [(h0, .inr (5, [.int 2, .int 0, .int 0, .ref q1, .ref q2, .ref q3, .ref q4, .null, .null, .null])), (q1, .inl (cI, 8, .inl (fun _ => 0))), (q2, .inl (cI, 8, .inl (fun _ => 0))), (q3, .inl (cI, 20, .inl (fun _ => 0))), (q4, .inl (cI, 20, .inl (fun _ => 0))), (q5, .inl (cI, 20, .inl (fun _ => 0)))] H := hP
  have hD : va_D A [(h0, .inr (5, [.int 2, .int 0, .int 0, .ref q1, .ref q2, .ref q3, .ref q4, .null, .null, .null])), (q1, .inl (cI, 8, .inl (fun _ => 0))), (q2, .inl (cI, 8, .inl (fun _ => 0))), (q3, .inl (cI, 20, .inl (fun _ => 0))), (q4, .inl (cI, 20, .inl (fun _ => 0))), (q5, .inl (cI, 20, .inl (fun _ => 0)))] := hD
  refine va_putF (D := (dC, dI)) (ci := 5) (v := .ref q5) (ty := .array .int) (C := RX5) (T := TX5) (N := 10) hx hb hts ic_X5_init_X5 tyX5 tyX5_ok nmX5 hown hK hP hD hS 0 rfl rfl 7 (by decide) (hts _ mw_X5_init_10) (fun _ h9 => h9) rfl hin rfl (by decide +kernel) rfl rfl (Nat.le_of_ble_eq_true rfl) dX5_init_51 (fun H locs hP hD hS => ?_)
  have hP : va_P (dC, dI) pf_cls [(h0, .inr (5, [.int 2, .int 0, .int 0, .ref q1, .ref q2, .ref q3, .ref q4, .ref q5, .null, .null])), (q1, .inl (cI, 8, .inl (fun _ => 0))), (q2, .inl (cI, 8, .inl (fun _ => 0))), (q3, .inl (cI, 20, .inl (fun _ => 0))), (q4, .inl (cI, 20, .inl (fun _ => 0))), (q5, .inl (cI, 20, .inl (fun _ => 0)))] H := hP
  have hD : va_D A [(h0, .inr (5, [.int 2, .int 0, .int 0, .ref q1, .ref q2, .ref q3, .ref q4, .ref q5, .null, .null])), (q1, .inl (cI, 8, .inl (fun _ => 0))), (q2, .inl (cI, 8, .inl (fun _ => 0))), (q3, .inl (cI, 20, .inl (fun _ => 0))), (q4, .inl (cI, 20, .inl (fun _ => 0))), (q5, .inl (cI, 20, .inl (fun _ => 0)))] := hD
  refine lv_aload_n hx hb dX5_init_54 rfl (lv_at hl 0 rfl) ?_
  refine lv_bipush (v := 20) hx hb dX5_init_55 (by decide +kernel) ?_
  refine pf_newI (N' := 20) hx hb (hts _ mw_X5_init_5) hK hP hD hS hA 0 rfl (by decide +kernel) (by decide +kernel) (by decide) (Nat.le_of_ble_eq_true rfl) (Nat.le_of_ble_eq_true rfl) dX5_init_57 (fun q6 H hP hD hS => ?_)
  have hP : va_P (dC, dI) pf_cls [(h0, .inr (5, [.int 2, .int 0, .int 0, .ref q1, .ref q2, .ref q3, .ref q4, .ref q5, .null, .null])), (q1, .inl (cI, 8, .inl (fun _ => 0))), (q2, .inl (cI, 8, .inl (fun _ => 0))), (q3, .inl (cI, 20, .inl (fun _ => 0))), (q4, .inl (cI, 20, .inl (fun _ => 0))), (q5, .inl (cI, 20, .inl (fun _ => 0))), (q6, .inl (cI, 20, .inl (fun _ => 0)))] H := hP
  have hD : va_D A [(h0, .inr (5, [.int 2, .int 0, .int 0, .ref q1, .ref q2, .ref q3, .ref q4, .ref q5, .null, .null])), (q1, .inl (cI, 8, .inl (fun _ => 0))), (q2, .inl (cI, 8, .inl (fun _ => 0))), (q3, .inl (cI, 20, .inl (fun _ => 0))), (q4, .inl (cI, 20, .inl (fun _ => 0))), (q5, .inl (cI, 20, .inl (fun _ => 0))), (q6, .inl (cI, 20, .inl (fun _ => 0)))] := hD
  refine va_putF (D := (dC, dI)) (ci := 5) (v := .ref q6) (ty := .array .int) (C := RX5) (T := TX5) (N := 10) hx hb hts ic_X5_init_X5 tyX5 tyX5_ok nmX5 hown hK hP hD hS 0 rfl rfl 8 (by decide) (hts _ mw_X5_init_11) (fun _ h9 => h9) rfl hin rfl (by decide +kernel) rfl rfl (Nat.le_of_ble_eq_true rfl) dX5_init_59 (fun H locs hP hD hS => ?_)
  have hP : va_P (dC, dI) pf_cls [(h0, .inr (5, [.int 2, .int 0, .int 0, .ref q1, .ref q2, .ref q3, .ref q4, .ref q5, .ref q6, .null])), (q1, .inl (cI, 8, .inl (fun _ => 0))), (q2, .inl (cI, 8, .inl (fun _ => 0))), (q3, .inl (cI, 20, .inl (fun _ => 0))), (q4, .inl (cI, 20, .inl (fun _ => 0))), (q5, .inl (cI, 20, .inl (fun _ => 0))), (q6, .inl (cI, 20, .inl (fun _ => 0)))] H := hP
  have hD : va_D A [(h0, .inr (5, [.int 2, .int 0, .int 0, .ref q1, .ref q2, .ref q3, .ref q4, .ref q5, .ref q6, .null])), (q1, .inl (cI, 8, .inl (fun _ => 0))), (q2, .inl (cI, 8, .inl (fun _ => 0))), (q3, .inl (cI, 20, .inl (fun _ => 0))), (q4, .inl (cI, 20, .inl (fun _ => 0))), (q5, .inl (cI, 20, .inl (fun _ => 0))), (q6, .inl (cI, 20, .inl (fun _ => 0)))] := hD
  refine lv_aload_n hx hb dX5_init_62 rfl (lv_at hl 0 rfl) ?_
  refine lv_bipush (v := 20) hx hb dX5_init_63 (by decide +kernel) ?_
  refine pf_newI (N' := 20) hx hb (hts _ mw_X5_init_5) hK hP hD hS hA 0 rfl (by decide +kernel) (by decide +kernel) (by decide) (Nat.le_of_ble_eq_true rfl) (Nat.le_of_ble_eq_true rfl) dX5_init_65 (fun q7 H hP hD hS => ?_)
  have hP : va_P (dC, dI) pf_cls [(h0, .inr (5, [.int 2, .int 0, .int 0, .ref q1, .ref q2, .ref q3, .ref q4, .ref q5, .ref q6, .null])), (q1, .inl (cI, 8, .inl (fun _ => 0))), (q2, .inl (cI, 8, .inl (fun _ => 0))), (q3, .inl (cI, 20, .inl (fun _ => 0))), (q4, .inl (cI, 20, .inl (fun _ => 0))), (q5, .inl (cI, 20, .inl (fun _ => 0))), (q6, .inl (cI, 20, .inl (fun _ => 0))), (q7, .inl (cI, 20, .inl (fun _ => 0)))] H := hP
  have hD : va_D A [(h0, .inr (5, [.int 2, .int 0, .int 0, .ref q1, .ref q2, .ref q3, .ref q4, .ref q5, .ref q6, .null])), (q1, .inl (cI, 8, .inl (fun _ => 0))), (q2, .inl (cI, 8, .inl (fun _ => 0))), (q3, .inl (cI, 20, .inl (fun _ => 0))), (q4, .inl (cI, 20, .inl (fun _ => 0))), (q5, .inl (cI, 20, .inl (fun _ => 0))), (q6, .inl (cI, 20, .inl (fun _ => 0))), (q7, .inl (cI, 20, .inl (fun _ => 0)))] := hD
  refine va_putF (D := (dC, dI)) (ci := 5) (v := .ref q7) (ty := .array .int) (C := RX5) (T := TX5) (N := 10) hx hb hts ic_X5_init_X5 tyX5 tyX5_ok nmX5 hown hK hP hD hS 0 rfl rfl 9 (by decide) (hts _ mw_X5_init_12) (fun _ h9 => h9) rfl hin rfl (by decide +kernel) rfl rfl (Nat.le_of_ble_eq_true rfl) dX5_init_67 (fun H locs hP hD hS => ?_)
  have hP : va_P (dC, dI) pf_cls [(h0, .inr (5, [.int 2, .int 0, .int 0, .ref q1, .ref q2, .ref q3, .ref q4, .ref q5, .ref q6, .ref q7])), (q1, .inl (cI, 8, .inl (fun _ => 0))), (q2, .inl (cI, 8, .inl (fun _ => 0))), (q3, .inl (cI, 20, .inl (fun _ => 0))), (q4, .inl (cI, 20, .inl (fun _ => 0))), (q5, .inl (cI, 20, .inl (fun _ => 0))), (q6, .inl (cI, 20, .inl (fun _ => 0))), (q7, .inl (cI, 20, .inl (fun _ => 0)))] H := hP
  have hD : va_D A [(h0, .inr (5, [.int 2, .int 0, .int 0, .ref q1, .ref q2, .ref q3, .ref q4, .ref q5, .ref q6, .ref q7])), (q1, .inl (cI, 8, .inl (fun _ => 0))), (q2, .inl (cI, 8, .inl (fun _ => 0))), (q3, .inl (cI, 20, .inl (fun _ => 0))), (q4, .inl (cI, 20, .inl (fun _ => 0))), (q5, .inl (cI, 20, .inl (fun _ => 0))), (q6, .inl (cI, 20, .inl (fun _ => 0))), (q7, .inl (cI, 20, .inl (fun _ => 0)))] := hD
  have hP9 := hP.sub (ws' := [(h0, .inr (5, [.int 2, .int 0, .int 0, .ref q1, .ref q2, .ref q3, .ref q4, .ref q5, .ref q6, .ref q7])), (q1, .inl (cI, 8, .inl (fun _ => 0))), (q2, .inl (cI, 8, .inl (fun _ => 0))), (q3, .inl (cI, 20, .inl (fun _ => 0))), (q4, .inl (cI, 20, .inl (fun _ => 0))), (q5, .inl (cI, 20, .inl (fun _ => 0))), (q6, .inl (cI, 20, .inl (fun _ => 0))), (q7, .inl (cI, 20, .inl (fun _ => 0)))]) [0, 1, 2, 3, 4, 5, 6, 7] rfl
  have hD9 := hD.sub (ws' := [(h0, .inr (5, [.int 2, .int 0, .int 0, .ref q1, .ref q2, .ref q3, .ref q4, .ref q5, .ref q6, .ref q7])), (q1, .inl (cI, 8, .inl (fun _ => 0))), (q2, .inl (cI, 8, .inl (fun _ => 0))), (q3, .inl (cI, 20, .inl (fun _ => 0))), (q4, .inl (cI, 20, .inl (fun _ => 0))), (q5, .inl (cI, 20, .inl (fun _ => 0))), (q6, .inl (cI, 20, .inl (fun _ => 0))), (q7, .inl (cI, 20, .inl (fun _ => 0)))]) [0, 1, 2, 3, 4, 5, 6, 7] (by decide) rfl
  refine W.widen (k := 7) (n := 116) (Nat.le_of_ble_eq_true rfl) (Nat.le_of_ble_eq_true rfl) ?_
  exact W.vret hx hb hr (fun t ht hW => ⟨⟨(), rfl, trivial, q1, q2, q3, q4, q5, q6, q7, (by rw [ht]; exact hP9), hD9⟩, hS.F ht⟩) hS.2.2 dX5_init_70
end
