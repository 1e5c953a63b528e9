section
-- ===== PART A: goes FIRST, ahead of the names: the tables' words, and 'selects' of the private methods out of them =====
/-- a private method of a class that the tables say can be made, by its rows of tables_1 -/
def lw_okq (q : MethodName × Nat) : Prop := (q.1.cls ≠ "java/lang/invoke/MethodHandle" ∧ q.1.cls ≠ "java/lang/invoke/VarHandle") ∧ Cond.instantiable q.1.cls q.2 ∈ tables_1 ∧ Cond.privateMethod q.1 ∈ tables_1 ∧ Cond.instanceMethod q.1 ∈ tables_1
theorem lw_p0 : lw_okq (⟨"VeilSteps", "fail", "(I)I"⟩, 8) := ⟨⟨by decide +kernel, by decide +kernel⟩, List.mem_of_getElem? (i := 21) (by decide +kernel), List.mem_of_getElem? (i := 266) (by decide +kernel), List.mem_of_getElem? (i := 267) (by decide +kernel)⟩
theorem lw_p1 : lw_okq (⟨"VeilSteps$Kin", "measure", "()V"⟩, 6) := ⟨⟨by decide +kernel, by decide +kernel⟩, List.mem_of_getElem? (i := 35) (by decide +kernel), List.mem_of_getElem? (i := 275) (by decide +kernel), List.mem_of_getElem? (i := 276) (by decide +kernel)⟩
theorem lw_p2 : lw_okq (⟨"VeilSteps$Kin", "link", "(II)V"⟩, 6) := ⟨⟨by decide +kernel, by decide +kernel⟩, List.mem_of_getElem? (i := 35) (by decide +kernel), List.mem_of_getElem? (i := 279) (by decide +kernel), List.mem_of_getElem? (i := 280) (by decide +kernel)⟩
theorem lw_p3 : lw_okq (⟨"VeilSteps$Kin", "shortenBy", "(II)V"⟩, 6) := ⟨⟨by decide +kernel, by decide +kernel⟩, List.mem_of_getElem? (i := 35) (by decide +kernel), List.mem_of_getElem? (i := 287) (by decide +kernel), List.mem_of_getElem? (i := 288) (by decide +kernel)⟩
theorem lw_p4 : lw_okq (⟨"VeilSteps$Reader", "readsLevel", "(II)Z"⟩, 4) := ⟨⟨by decide +kernel, by decide +kernel⟩, List.mem_of_getElem? (i := 166) (by decide +kernel), List.mem_of_getElem? (i := 452) (by decide +kernel), List.mem_of_getElem? (i := 453) (by decide +kernel)⟩
theorem lw_p5 : lw_okq (⟨"VeilSteps$Reader", "readsUnit", "(I)Z"⟩, 4) := ⟨⟨by decide +kernel, by decide +kernel⟩, List.mem_of_getElem? (i := 166) (by decide +kernel), List.mem_of_getElem? (i := 456) (by decide +kernel), List.mem_of_getElem? (i := 457) (by decide +kernel)⟩
theorem lw_p6 : lw_okq (⟨"VeilSteps$Reader", "readNumber", "()V"⟩, 4) := ⟨⟨by decide +kernel, by decide +kernel⟩, List.mem_of_getElem? (i := 166) (by decide +kernel), List.mem_of_getElem? (i := 464) (by decide +kernel), List.mem_of_getElem? (i := 465) (by decide +kernel)⟩
theorem lw_p7 : lw_okq (⟨"VeilSteps$Reader", "readsDenied", "(I)Z"⟩, 4) := ⟨⟨by decide +kernel, by decide +kernel⟩, List.mem_of_getElem? (i := 166) (by decide +kernel), List.mem_of_getElem? (i := 551) (by decide +kernel), List.mem_of_getElem? (i := 552) (by decide +kernel)⟩
theorem lw_p8 : lw_okq (⟨"VeilSteps$Reader", "readsClosed", "(I)Z"⟩, 4) := ⟨⟨by decide +kernel, by decide +kernel⟩, List.mem_of_getElem? (i := 166) (by decide +kernel), List.mem_of_getElem? (i := 555) (by decide +kernel), List.mem_of_getElem? (i := 556) (by decide +kernel)⟩
theorem lw_p9 : lw_okq (⟨"VeilSteps$World", "passYear", "(LVeilSteps$Course;II)V"⟩, 8) := ⟨⟨by decide +kernel, by decide +kernel⟩, List.mem_of_getElem? (i := 29) (by decide +kernel), List.mem_of_getElem? (i := 596) (by decide +kernel), List.mem_of_getElem? (i := 597) (by decide +kernel)⟩
theorem lw_p10 : lw_okq (⟨"VeilSteps$World", "draw", "()I"⟩, 8) := ⟨⟨by decide +kernel, by decide +kernel⟩, List.mem_of_getElem? (i := 29) (by decide +kernel), List.mem_of_getElem? (i := 621) (by decide +kernel), List.mem_of_getElem? (i := 622) (by decide +kernel)⟩
theorem lw_p11 : lw_okq (⟨"VeilSteps$Kin", "byMarriage", "(IIII)I"⟩, 6) := ⟨⟨by decide +kernel, by decide +kernel⟩, List.mem_of_getElem? (i := 35) (by decide +kernel), List.mem_of_getElem? (i := 659) (by decide +kernel), List.mem_of_getElem? (i := 660) (by decide +kernel)⟩
theorem lw_p12 : lw_okq (⟨"VeilSteps$World", "wouldLet", "(ILVeilSteps$Row;)Z"⟩, 8) := ⟨⟨by decide +kernel, by decide +kernel⟩, List.mem_of_getElem? (i := 29) (by decide +kernel), List.mem_of_getElem? (i := 717) (by decide +kernel), List.mem_of_getElem? (i := 718) (by decide +kernel)⟩
theorem lw_p13 : lw_okq (⟨"VeilSteps$Voices", "spoken", "(IIII)I"⟩, 5) := ⟨⟨by decide +kernel, by decide +kernel⟩, List.mem_of_getElem? (i := 190) (by decide +kernel), List.mem_of_getElem? (i := 739) (by decide +kernel), List.mem_of_getElem? (i := 740) (by decide +kernel)⟩
theorem lw_p14 : lw_okq (⟨"VeilSteps$Voices", "worked", "(IIII)I"⟩, 5) := ⟨⟨by decide +kernel, by decide +kernel⟩, List.mem_of_getElem? (i := 190) (by decide +kernel), List.mem_of_getElem? (i := 747) (by decide +kernel), List.mem_of_getElem? (i := 748) (by decide +kernel)⟩
theorem lw_p15 : lw_okq (⟨"VeilSteps$Voices", "own", "(III)I"⟩, 5) := ⟨⟨by decide +kernel, by decide +kernel⟩, List.mem_of_getElem? (i := 190) (by decide +kernel), List.mem_of_getElem? (i := 752) (by decide +kernel), List.mem_of_getElem? (i := 753) (by decide +kernel)⟩
def lw_privs_1 : List (MethodName × Nat) := [(⟨"VeilSteps", "fail", "(I)I"⟩, 8), (⟨"VeilSteps$Kin", "measure", "()V"⟩, 6), (⟨"VeilSteps$Kin", "link", "(II)V"⟩, 6), (⟨"VeilSteps$Kin", "shortenBy", "(II)V"⟩, 6), (⟨"VeilSteps$Reader", "readsLevel", "(II)Z"⟩, 4), (⟨"VeilSteps$Reader", "readsUnit", "(I)Z"⟩, 4), (⟨"VeilSteps$Reader", "readNumber", "()V"⟩, 4), (⟨"VeilSteps$Reader", "readsDenied", "(I)Z"⟩, 4), (⟨"VeilSteps$Reader", "readsClosed", "(I)Z"⟩, 4), (⟨"VeilSteps$World", "passYear", "(LVeilSteps$Course;II)V"⟩, 8), (⟨"VeilSteps$World", "draw", "()I"⟩, 8), (⟨"VeilSteps$Kin", "byMarriage", "(IIII)I"⟩, 6), (⟨"VeilSteps$World", "wouldLet", "(ILVeilSteps$Row;)Z"⟩, 8), (⟨"VeilSteps$Voices", "spoken", "(IIII)I"⟩, 5), (⟨"VeilSteps$Voices", "worked", "(IIII)I"⟩, 5), (⟨"VeilSteps$Voices", "own", "(III)I"⟩, 5)]
theorem lw_r1 : ∀ q ∈ lw_privs_1, lw_okq q := List.forall_mem_cons.mpr ⟨lw_p0, List.forall_mem_cons.mpr ⟨lw_p1, List.forall_mem_cons.mpr ⟨lw_p2, List.forall_mem_cons.mpr ⟨lw_p3, List.forall_mem_cons.mpr ⟨lw_p4, List.forall_mem_cons.mpr ⟨lw_p5, List.forall_mem_cons.mpr ⟨lw_p6, List.forall_mem_cons.mpr ⟨lw_p7, List.forall_mem_cons.mpr ⟨lw_p8, List.forall_mem_cons.mpr ⟨lw_p9, List.forall_mem_cons.mpr ⟨lw_p10, List.forall_mem_cons.mpr ⟨lw_p11, List.forall_mem_cons.mpr ⟨lw_p12, List.forall_mem_cons.mpr ⟨lw_p13, List.forall_mem_cons.mpr ⟨lw_p14, List.forall_mem_cons.mpr ⟨lw_p15, fun _ h => absurd h List.not_mem_nil⟩⟩⟩⟩⟩⟩⟩⟩⟩⟩⟩⟩⟩⟩⟩⟩
theorem lw_p16 : lw_okq (⟨"VeilSteps$Voices", "partsBy", "(II)I"⟩, 5) := ⟨⟨by decide +kernel, by decide +kernel⟩, List.mem_of_getElem? (i := 190) (by decide +kernel), List.mem_of_getElem? (i := 756) (by decide +kernel), List.mem_of_getElem? (i := 757) (by decide +kernel)⟩
theorem lw_p17 : lw_okq (⟨"VeilSteps$Voices", "heiressParts", "(III)I"⟩, 5) := ⟨⟨by decide +kernel, by decide +kernel⟩, List.mem_of_getElem? (i := 190) (by decide +kernel), List.mem_of_getElem? (i := 760) (by decide +kernel), List.mem_of_getElem? (i := 761) (by decide +kernel)⟩
theorem lw_p18 : lw_okq (⟨"VeilStepsModel", "error", "(I)I"⟩, 20) := ⟨⟨by decide +kernel, by decide +kernel⟩, List.mem_of_getElem? (i := 856) (by decide +kernel), List.mem_of_getElem? (i := 934) (by decide +kernel), List.mem_of_getElem? (i := 935) (by decide +kernel)⟩
theorem lw_p19 : lw_okq (⟨"VeilStepsModel", "puts", "(III)V"⟩, 20) := ⟨⟨by decide +kernel, by decide +kernel⟩, List.mem_of_getElem? (i := 856) (by decide +kernel), List.mem_of_getElem? (i := 940) (by decide +kernel), List.mem_of_getElem? (i := 941) (by decide +kernel)⟩
theorem lw_p20 : lw_okq (⟨"VeilStepsModel", "isPerson", "(I)Z"⟩, 20) := ⟨⟨by decide +kernel, by decide +kernel⟩, List.mem_of_getElem? (i := 856) (by decide +kernel), List.mem_of_getElem? (i := 948) (by decide +kernel), List.mem_of_getElem? (i := 949) (by decide +kernel)⟩
theorem lw_p21 : lw_okq (⟨"VeilStepsModel", "of", "(II)I"⟩, 20) := ⟨⟨by decide +kernel, by decide +kernel⟩, List.mem_of_getElem? (i := 856) (by decide +kernel), List.mem_of_getElem? (i := 952) (by decide +kernel), List.mem_of_getElem? (i := 953) (by decide +kernel)⟩
theorem lw_p22 : lw_okq (⟨"VeilStepsModel", "sight", "(I)I"⟩, 20) := ⟨⟨by decide +kernel, by decide +kernel⟩, List.mem_of_getElem? (i := 856) (by decide +kernel), List.mem_of_getElem? (i := 956) (by decide +kernel), List.mem_of_getElem? (i := 957) (by decide +kernel)⟩
theorem lw_p23 : lw_okq (⟨"VeilStepsModel", "eyes", "(I)I"⟩, 20) := ⟨⟨by decide +kernel, by decide +kernel⟩, List.mem_of_getElem? (i := 856) (by decide +kernel), List.mem_of_getElem? (i := 960) (by decide +kernel), List.mem_of_getElem? (i := 961) (by decide +kernel)⟩
theorem lw_p24 : lw_okq (⟨"VeilStepsModel", "relatives", "(I)I"⟩, 20) := ⟨⟨by decide +kernel, by decide +kernel⟩, List.mem_of_getElem? (i := 856) (by decide +kernel), List.mem_of_getElem? (i := 964) (by decide +kernel), List.mem_of_getElem? (i := 965) (by decide +kernel)⟩
theorem lw_p25 : lw_okq (⟨"VeilStepsModel", "besides", "(I)I"⟩, 20) := ⟨⟨by decide +kernel, by decide +kernel⟩, List.mem_of_getElem? (i := 856) (by decide +kernel), List.mem_of_getElem? (i := 968) (by decide +kernel), List.mem_of_getElem? (i := 969) (by decide +kernel)⟩
theorem lw_p26 : lw_okq (⟨"VeilStepsModel", "isKin", "(II)Z"⟩, 20) := ⟨⟨by decide +kernel, by decide +kernel⟩, List.mem_of_getElem? (i := 856) (by decide +kernel), List.mem_of_getElem? (i := 972) (by decide +kernel), List.mem_of_getElem? (i := 973) (by decide +kernel)⟩
theorem lw_p27 : lw_okq (⟨"VeilStepsModel", "gives", "(IIII)I"⟩, 20) := ⟨⟨by decide +kernel, by decide +kernel⟩, List.mem_of_getElem? (i := 856) (by decide +kernel), List.mem_of_getElem? (i := 979) (by decide +kernel), List.mem_of_getElem? (i := 980) (by decide +kernel)⟩
theorem lw_p28 : lw_okq (⟨"VeilStepsModel", "works", "(I)I"⟩, 20) := ⟨⟨by decide +kernel, by decide +kernel⟩, List.mem_of_getElem? (i := 856) (by decide +kernel), List.mem_of_getElem? (i := 983) (by decide +kernel), List.mem_of_getElem? (i := 984) (by decide +kernel)⟩
theorem lw_p29 : lw_okq (⟨"VeilStepsModel", "becomes", "(II)I"⟩, 20) := ⟨⟨by decide +kernel, by decide +kernel⟩, List.mem_of_getElem? (i := 856) (by decide +kernel), List.mem_of_getElem? (i := 997) (by decide +kernel), List.mem_of_getElem? (i := 998) (by decide +kernel)⟩
theorem lw_p30 : lw_okq (⟨"VeilStepsModel", "weds", "(II)V"⟩, 20) := ⟨⟨by decide +kernel, by decide +kernel⟩, List.mem_of_getElem? (i := 856) (by decide +kernel), List.mem_of_getElem? (i := 1015) (by decide +kernel), List.mem_of_getElem? (i := 1016) (by decide +kernel)⟩
theorem lw_p31 : lw_okq (⟨"VeilStepsModel", "stepsBy", "(II)I"⟩, 20) := ⟨⟨by decide +kernel, by decide +kernel⟩, List.mem_of_getElem? (i := 856) (by decide +kernel), List.mem_of_getElem? (i := 1028) (by decide +kernel), List.mem_of_getElem? (i := 1029) (by decide +kernel)⟩
def lw_privs_2 : List (MethodName × Nat) := [(⟨"VeilSteps$Voices", "partsBy", "(II)I"⟩, 5), (⟨"VeilSteps$Voices", "heiressParts", "(III)I"⟩, 5), (⟨"VeilStepsModel", "error", "(I)I"⟩, 20), (⟨"VeilStepsModel", "puts", "(III)V"⟩, 20), (⟨"VeilStepsModel", "isPerson", "(I)Z"⟩, 20), (⟨"VeilStepsModel", "of", "(II)I"⟩, 20), (⟨"VeilStepsModel", "sight", "(I)I"⟩, 20), (⟨"VeilStepsModel", "eyes", "(I)I"⟩, 20), (⟨"VeilStepsModel", "relatives", "(I)I"⟩, 20), (⟨"VeilStepsModel", "besides", "(I)I"⟩, 20), (⟨"VeilStepsModel", "isKin", "(II)Z"⟩, 20), (⟨"VeilStepsModel", "gives", "(IIII)I"⟩, 20), (⟨"VeilStepsModel", "works", "(I)I"⟩, 20), (⟨"VeilStepsModel", "becomes", "(II)I"⟩, 20), (⟨"VeilStepsModel", "weds", "(II)V"⟩, 20), (⟨"VeilStepsModel", "stepsBy", "(II)I"⟩, 20)]
theorem lw_r2 : ∀ q ∈ lw_privs_2, lw_okq q := List.forall_mem_cons.mpr ⟨lw_p16, List.forall_mem_cons.mpr ⟨lw_p17, List.forall_mem_cons.mpr ⟨lw_p18, List.forall_mem_cons.mpr ⟨lw_p19, List.forall_mem_cons.mpr ⟨lw_p20, List.forall_mem_cons.mpr ⟨lw_p21, List.forall_mem_cons.mpr ⟨lw_p22, List.forall_mem_cons.mpr ⟨lw_p23, List.forall_mem_cons.mpr ⟨lw_p24, List.forall_mem_cons.mpr ⟨lw_p25, List.forall_mem_cons.mpr ⟨lw_p26, List.forall_mem_cons.mpr ⟨lw_p27, List.forall_mem_cons.mpr ⟨lw_p28, List.forall_mem_cons.mpr ⟨lw_p29, List.forall_mem_cons.mpr ⟨lw_p30, List.forall_mem_cons.mpr ⟨lw_p31, fun _ h => absurd h List.not_mem_nil⟩⟩⟩⟩⟩⟩⟩⟩⟩⟩⟩⟩⟩⟩⟩⟩
theorem lw_p32 : lw_okq (⟨"VeilStepsModel", "veils", "(II)I"⟩, 20) := ⟨⟨by decide +kernel, by decide +kernel⟩, List.mem_of_getElem? (i := 856) (by decide +kernel), List.mem_of_getElem? (i := 1036) (by decide +kernel), List.mem_of_getElem? (i := 1037) (by decide +kernel)⟩
theorem lw_p33 : lw_okq (⟨"VeilStepsModel", "letsBy", "(II)I"⟩, 20) := ⟨⟨by decide +kernel, by decide +kernel⟩, List.mem_of_getElem? (i := 856) (by decide +kernel), List.mem_of_getElem? (i := 1040) (by decide +kernel), List.mem_of_getElem? (i := 1041) (by decide +kernel)⟩
theorem lw_p34 : lw_okq (⟨"VeilStepsModel", "any", "()V"⟩, 20) := ⟨⟨by decide +kernel, by decide +kernel⟩, List.mem_of_getElem? (i := 856) (by decide +kernel), List.mem_of_getElem? (i := 1061) (by decide +kernel), List.mem_of_getElem? (i := 1062) (by decide +kernel)⟩
theorem lw_p35 : lw_okq (⟨"VeilStepsModel", "all", "()V"⟩, 20) := ⟨⟨by decide +kernel, by decide +kernel⟩, List.mem_of_getElem? (i := 856) (by decide +kernel), List.mem_of_getElem? (i := 1065) (by decide +kernel), List.mem_of_getElem? (i := 1066) (by decide +kernel)⟩
theorem lw_p36 : lw_okq (⟨"VeilStepsModel", "compares", "()V"⟩, 20) := ⟨⟨by decide +kernel, by decide +kernel⟩, List.mem_of_getElem? (i := 856) (by decide +kernel), List.mem_of_getElem? (i := 1069) (by decide +kernel), List.mem_of_getElem? (i := 1070) (by decide +kernel)⟩
theorem lw_p37 : lw_okq (⟨"VeilStepsModel", "sum", "()V"⟩, 20) := ⟨⟨by decide +kernel, by decide +kernel⟩, List.mem_of_getElem? (i := 856) (by decide +kernel), List.mem_of_getElem? (i := 1073) (by decide +kernel), List.mem_of_getElem? (i := 1074) (by decide +kernel)⟩
theorem lw_p38 : lw_okq (⟨"VeilStepsModel", "times", "()V"⟩, 20) := ⟨⟨by decide +kernel, by decide +kernel⟩, List.mem_of_getElem? (i := 856) (by decide +kernel), List.mem_of_getElem? (i := 1077) (by decide +kernel), List.mem_of_getElem? (i := 1078) (by decide +kernel)⟩
theorem lw_p39 : lw_okq (⟨"VeilStepsModel", "one", "()V"⟩, 20) := ⟨⟨by decide +kernel, by decide +kernel⟩, List.mem_of_getElem? (i := 856) (by decide +kernel), List.mem_of_getElem? (i := 1081) (by decide +kernel), List.mem_of_getElem? (i := 1082) (by decide +kernel)⟩
theorem lw_p40 : lw_okq (⟨"VeilStepsModel", "look", "()I"⟩, 20) := ⟨⟨by decide +kernel, by decide +kernel⟩, List.mem_of_getElem? (i := 856) (by decide +kernel), List.mem_of_getElem? (i := 1085) (by decide +kernel), List.mem_of_getElem? (i := 1086) (by decide +kernel)⟩
theorem lw_p41 : lw_okq (⟨"VeilStepsModel", "nameOf", "(I)I"⟩, 20) := ⟨⟨by decide +kernel, by decide +kernel⟩, List.mem_of_getElem? (i := 856) (by decide +kernel), List.mem_of_getElem? (i := 1089) (by decide +kernel), List.mem_of_getElem? (i := 1090) (by decide +kernel)⟩
theorem lw_p42 : lw_okq (⟨"VeilStepsModel", "lays", "(II)V"⟩, 20) := ⟨⟨by decide +kernel, by decide +kernel⟩, List.mem_of_getElem? (i := 856) (by decide +kernel), List.mem_of_getElem? (i := 1093) (by decide +kernel), List.mem_of_getElem? (i := 1094) (by decide +kernel)⟩
theorem lw_p43 : lw_okq (⟨"VeilStepsModel", "opens", "(I)V"⟩, 20) := ⟨⟨by decide +kernel, by decide +kernel⟩, List.mem_of_getElem? (i := 856) (by decide +kernel), List.mem_of_getElem? (i := 1097) (by decide +kernel), List.mem_of_getElem? (i := 1098) (by decide +kernel)⟩
theorem lw_p44 : lw_okq (⟨"VeilStepsModel", "number", "()V"⟩, 20) := ⟨⟨by decide +kernel, by decide +kernel⟩, List.mem_of_getElem? (i := 856) (by decide +kernel), List.mem_of_getElem? (i := 1101) (by decide +kernel), List.mem_of_getElem? (i := 1102) (by decide +kernel)⟩
theorem lw_p45 : lw_okq (⟨"VeilStepsModel", "goesFor", "(I)V"⟩, 20) := ⟨⟨by decide +kernel, by decide +kernel⟩, List.mem_of_getElem? (i := 856) (by decide +kernel), List.mem_of_getElem? (i := 1117) (by decide +kernel), List.mem_of_getElem? (i := 1118) (by decide +kernel)⟩
theorem lw_p46 : lw_okq (⟨"VeilStepsModel", "goes", "()V"⟩, 20) := ⟨⟨by decide +kernel, by decide +kernel⟩, List.mem_of_getElem? (i := 856) (by decide +kernel), List.mem_of_getElem? (i := 1121) (by decide +kernel), List.mem_of_getElem? (i := 1122) (by decide +kernel)⟩
theorem lw_p47 : lw_okq (⟨"VeilStepsModel", "allSeen", "()I"⟩, 20) := ⟨⟨by decide +kernel, by decide +kernel⟩, List.mem_of_getElem? (i := 856) (by decide +kernel), List.mem_of_getElem? (i := 1125) (by decide +kernel), List.mem_of_getElem? (i := 1126) (by decide +kernel)⟩
def lw_privs_3 : List (MethodName × Nat) := [(⟨"VeilStepsModel", "veils", "(II)I"⟩, 20), (⟨"VeilStepsModel", "letsBy", "(II)I"⟩, 20), (⟨"VeilStepsModel", "any", "()V"⟩, 20), (⟨"VeilStepsModel", "all", "()V"⟩, 20), (⟨"VeilStepsModel", "compares", "()V"⟩, 20), (⟨"VeilStepsModel", "sum", "()V"⟩, 20), (⟨"VeilStepsModel", "times", "()V"⟩, 20), (⟨"VeilStepsModel", "one", "()V"⟩, 20), (⟨"VeilStepsModel", "look", "()I"⟩, 20), (⟨"VeilStepsModel", "nameOf", "(I)I"⟩, 20), (⟨"VeilStepsModel", "lays", "(II)V"⟩, 20), (⟨"VeilStepsModel", "opens", "(I)V"⟩, 20), (⟨"VeilStepsModel", "number", "()V"⟩, 20), (⟨"VeilStepsModel", "goesFor", "(I)V"⟩, 20), (⟨"VeilStepsModel", "goes", "()V"⟩, 20), (⟨"VeilStepsModel", "allSeen", "()I"⟩, 20)]
theorem lw_r3 : ∀ q ∈ lw_privs_3, lw_okq q := List.forall_mem_cons.mpr ⟨lw_p32, List.forall_mem_cons.mpr ⟨lw_p33, List.forall_mem_cons.mpr ⟨lw_p34, List.forall_mem_cons.mpr ⟨lw_p35, List.forall_mem_cons.mpr ⟨lw_p36, List.forall_mem_cons.mpr ⟨lw_p37, List.forall_mem_cons.mpr ⟨lw_p38, List.forall_mem_cons.mpr ⟨lw_p39, List.forall_mem_cons.mpr ⟨lw_p40, List.forall_mem_cons.mpr ⟨lw_p41, List.forall_mem_cons.mpr ⟨lw_p42, List.forall_mem_cons.mpr ⟨lw_p43, List.forall_mem_cons.mpr ⟨lw_p44, List.forall_mem_cons.mpr ⟨lw_p45, List.forall_mem_cons.mpr ⟨lw_p46, List.forall_mem_cons.mpr ⟨lw_p47, fun _ h => absurd h List.not_mem_nil⟩⟩⟩⟩⟩⟩⟩⟩⟩⟩⟩⟩⟩⟩⟩⟩
theorem lw_p48 : lw_okq (⟨"VeilStepsModel", "drawn", "()V"⟩, 20) := ⟨⟨by decide +kernel, by decide +kernel⟩, List.mem_of_getElem? (i := 856) (by decide +kernel), List.mem_of_getElem? (i := 1133) (by decide +kernel), List.mem_of_getElem? (i := 1134) (by decide +kernel)⟩
theorem lw_p49 : lw_okq (⟨"VeilStepsModel", "draw", "()I"⟩, 20) := ⟨⟨by decide +kernel, by decide +kernel⟩, List.mem_of_getElem? (i := 856) (by decide +kernel), List.mem_of_getElem? (i := 1137) (by decide +kernel), List.mem_of_getElem? (i := 1138) (by decide +kernel)⟩
theorem lw_p50 : lw_okq (⟨"VeilStepsModel", "thinks", "()V"⟩, 20) := ⟨⟨by decide +kernel, by decide +kernel⟩, List.mem_of_getElem? (i := 856) (by decide +kernel), List.mem_of_getElem? (i := 1154) (by decide +kernel), List.mem_of_getElem? (i := 1155) (by decide +kernel)⟩
theorem lw_p51 : lw_okq (⟨"VeilStepsModel", "putsBack", "()V"⟩, 20) := ⟨⟨by decide +kernel, by decide +kernel⟩, List.mem_of_getElem? (i := 856) (by decide +kernel), List.mem_of_getElem? (i := 1161) (by decide +kernel), List.mem_of_getElem? (i := 1162) (by decide +kernel)⟩
theorem lw_p52 : lw_okq (⟨"VeilStepsModel", "seersOf", "(I)I"⟩, 20) := ⟨⟨by decide +kernel, by decide +kernel⟩, List.mem_of_getElem? (i := 856) (by decide +kernel), List.mem_of_getElem? (i := 1177) (by decide +kernel), List.mem_of_getElem? (i := 1178) (by decide +kernel)⟩
theorem lw_p53 : lw_okq (⟨"VeilStepsModel", "everybody", "()I"⟩, 20) := ⟨⟨by decide +kernel, by decide +kernel⟩, List.mem_of_getElem? (i := 856) (by decide +kernel), List.mem_of_getElem? (i := 1189) (by decide +kernel), List.mem_of_getElem? (i := 1190) (by decide +kernel)⟩
theorem lw_p54 : lw_okq (⟨"VeilStepsModel", "seenBy", "(I)I"⟩, 20) := ⟨⟨by decide +kernel, by decide +kernel⟩, List.mem_of_getElem? (i := 856) (by decide +kernel), List.mem_of_getElem? (i := 1193) (by decide +kernel), List.mem_of_getElem? (i := 1194) (by decide +kernel)⟩
theorem lw_p55 : lw_okq (⟨"VeilStepsModel", "isSo", "(II)Z"⟩, 20) := ⟨⟨by decide +kernel, by decide +kernel⟩, List.mem_of_getElem? (i := 856) (by decide +kernel), List.mem_of_getElem? (i := 1208) (by decide +kernel), List.mem_of_getElem? (i := 1209) (by decide +kernel)⟩
theorem lw_p56 : lw_okq (⟨"VeilStepsModel", "lowers", "(II)I"⟩, 20) := ⟨⟨by decide +kernel, by decide +kernel⟩, List.mem_of_getElem? (i := 856) (by decide +kernel), List.mem_of_getElem? (i := 1216) (by decide +kernel), List.mem_of_getElem? (i := 1217) (by decide +kernel)⟩
theorem lw_p57 : lw_okq (⟨"VeilStepsModel", "heiressLowers", "(II)I"⟩, 20) := ⟨⟨by decide +kernel, by decide +kernel⟩, List.mem_of_getElem? (i := 856) (by decide +kernel), List.mem_of_getElem? (i := 1220) (by decide +kernel), List.mem_of_getElem? (i := 1221) (by decide +kernel)⟩
theorem lw_p58 : lw_okq (⟨"VeilStepsModel", "begins", "(I)V"⟩, 20) := ⟨⟨by decide +kernel, by decide +kernel⟩, List.mem_of_getElem? (i := 856) (by decide +kernel), List.mem_of_getElem? (i := 1224) (by decide +kernel), List.mem_of_getElem? (i := 1225) (by decide +kernel)⟩
theorem lw_p59 : lw_okq (⟨"VeilStepsModel", "plainLowers", "(II)I"⟩, 20) := ⟨⟨by decide +kernel, by decide +kernel⟩, List.mem_of_getElem? (i := 856) (by decide +kernel), List.mem_of_getElem? (i := 1228) (by decide +kernel), List.mem_of_getElem? (i := 1229) (by decide +kernel)⟩
theorem lw_p60 : lw_okq (⟨"VeilStepsModel", "lifts", "(II)I"⟩, 20) := ⟨⟨by decide +kernel, by decide +kernel⟩, List.mem_of_getElem? (i := 856) (by decide +kernel), List.mem_of_getElem? (i := 1232) (by decide +kernel), List.mem_of_getElem? (i := 1233) (by decide +kernel)⟩
theorem lw_p61 : lw_okq (⟨"VeilStepsModel", "judgeLifts", "(II)I"⟩, 20) := ⟨⟨by decide +kernel, by decide +kernel⟩, List.mem_of_getElem? (i := 856) (by decide +kernel), List.mem_of_getElem? (i := 1236) (by decide +kernel), List.mem_of_getElem? (i := 1237) (by decide +kernel)⟩
theorem lw_p62 : lw_okq (⟨"VeilStepsModel", "plainLifts", "(II)I"⟩, 20) := ⟨⟨by decide +kernel, by decide +kernel⟩, List.mem_of_getElem? (i := 856) (by decide +kernel), List.mem_of_getElem? (i := 1240) (by decide +kernel), List.mem_of_getElem? (i := 1241) (by decide +kernel)⟩
theorem lw_p63 : lw_okq (⟨"VeilStepsModel", "looksBy", "(II)I"⟩, 20) := ⟨⟨by decide +kernel, by decide +kernel⟩, List.mem_of_getElem? (i := 856) (by decide +kernel), List.mem_of_getElem? (i := 1244) (by decide +kernel), List.mem_of_getElem? (i := 1245) (by decide +kernel)⟩
def lw_privs_4 : List (MethodName × Nat) := [(⟨"VeilStepsModel", "drawn", "()V"⟩, 20), (⟨"VeilStepsModel", "draw", "()I"⟩, 20), (⟨"VeilStepsModel", "thinks", "()V"⟩, 20), (⟨"VeilStepsModel", "putsBack", "()V"⟩, 20), (⟨"VeilStepsModel", "seersOf", "(I)I"⟩, 20), (⟨"VeilStepsModel", "everybody", "()I"⟩, 20), (⟨"VeilStepsModel", "seenBy", "(I)I"⟩, 20), (⟨"VeilStepsModel", "isSo", "(II)Z"⟩, 20), (⟨"VeilStepsModel", "lowers", "(II)I"⟩, 20), (⟨"VeilStepsModel", "heiressLowers", "(II)I"⟩, 20), (⟨"VeilStepsModel", "begins", "(I)V"⟩, 20), (⟨"VeilStepsModel", "plainLowers", "(II)I"⟩, 20), (⟨"VeilStepsModel", "lifts", "(II)I"⟩, 20), (⟨"VeilStepsModel", "judgeLifts", "(II)I"⟩, 20), (⟨"VeilStepsModel", "plainLifts", "(II)I"⟩, 20), (⟨"VeilStepsModel", "looksBy", "(II)I"⟩, 20)]
theorem lw_r4 : ∀ q ∈ lw_privs_4, lw_okq q := List.forall_mem_cons.mpr ⟨lw_p48, List.forall_mem_cons.mpr ⟨lw_p49, List.forall_mem_cons.mpr ⟨lw_p50, List.forall_mem_cons.mpr ⟨lw_p51, List.forall_mem_cons.mpr ⟨lw_p52, List.forall_mem_cons.mpr ⟨lw_p53, List.forall_mem_cons.mpr ⟨lw_p54, List.forall_mem_cons.mpr ⟨lw_p55, List.forall_mem_cons.mpr ⟨lw_p56, List.forall_mem_cons.mpr ⟨lw_p57, List.forall_mem_cons.mpr ⟨lw_p58, List.forall_mem_cons.mpr ⟨lw_p59, List.forall_mem_cons.mpr ⟨lw_p60, List.forall_mem_cons.mpr ⟨lw_p61, List.forall_mem_cons.mpr ⟨lw_p62, List.forall_mem_cons.mpr ⟨lw_p63, fun _ h => absurd h List.not_mem_nil⟩⟩⟩⟩⟩⟩⟩⟩⟩⟩⟩⟩⟩⟩⟩⟩
theorem lw_p64 : lw_okq (⟨"VeilStepsModel", "plainLooks", "(II)I"⟩, 20) := ⟨⟨by decide +kernel, by decide +kernel⟩, List.mem_of_getElem? (i := 856) (by decide +kernel), List.mem_of_getElem? (i := 1248) (by decide +kernel), List.mem_of_getElem? (i := 1249) (by decide +kernel)⟩
theorem lw_p65 : lw_okq (⟨"VeilStepsModel", "partsBy", "(II)I"⟩, 20) := ⟨⟨by decide +kernel, by decide +kernel⟩, List.mem_of_getElem? (i := 856) (by decide +kernel), List.mem_of_getElem? (i := 1252) (by decide +kernel), List.mem_of_getElem? (i := 1253) (by decide +kernel)⟩
theorem lw_p66 : lw_okq (⟨"VeilStepsModel", "plainParts", "(II)I"⟩, 20) := ⟨⟨by decide +kernel, by decide +kernel⟩, List.mem_of_getElem? (i := 856) (by decide +kernel), List.mem_of_getElem? (i := 1256) (by decide +kernel), List.mem_of_getElem? (i := 1257) (by decide +kernel)⟩
theorem lw_p67 : lw_okq (⟨"VeilStepsModel", "notThere", "(I)I"⟩, 20) := ⟨⟨by decide +kernel, by decide +kernel⟩, List.mem_of_getElem? (i := 856) (by decide +kernel), List.mem_of_getElem? (i := 1273) (by decide +kernel), List.mem_of_getElem? (i := 1274) (by decide +kernel)⟩
theorem lw_p68 : lw_okq (⟨"VeilStepsModel", "notMoved", "(IIIII)I"⟩, 20) := ⟨⟨by decide +kernel, by decide +kernel⟩, List.mem_of_getElem? (i := 856) (by decide +kernel), List.mem_of_getElem? (i := 1281) (by decide +kernel), List.mem_of_getElem? (i := 1282) (by decide +kernel)⟩
def lw_privs_5 : List (MethodName × Nat) := [(⟨"VeilStepsModel", "plainLooks", "(II)I"⟩, 20), (⟨"VeilStepsModel", "partsBy", "(II)I"⟩, 20), (⟨"VeilStepsModel", "plainParts", "(II)I"⟩, 20), (⟨"VeilStepsModel", "notThere", "(I)I"⟩, 20), (⟨"VeilStepsModel", "notMoved", "(IIIII)I"⟩, 20)]
theorem lw_r5 : ∀ q ∈ lw_privs_5, lw_okq q := List.forall_mem_cons.mpr ⟨lw_p64, List.forall_mem_cons.mpr ⟨lw_p65, List.forall_mem_cons.mpr ⟨lw_p66, List.forall_mem_cons.mpr ⟨lw_p67, List.forall_mem_cons.mpr ⟨lw_p68, fun _ h => absurd h List.not_mem_nil⟩⟩⟩⟩⟩
def lw_privs : List (MethodName × Nat) := lw_privs_1 ++ (lw_privs_2 ++ (lw_privs_3 ++ (lw_privs_4 ++ (lw_privs_5))))
def lw_tbl : List Cond := k2_sels lw_privs ++ tables_1
theorem lw_privs_ok : ∀ q ∈ lw_privs, lw_okq q := by
  show ∀ q ∈ lw_privs_1 ++ (lw_privs_2 ++ (lw_privs_3 ++ (lw_privs_4 ++ (lw_privs_5)))), lw_okq q
  exact List.forall_mem_append.mpr ⟨lw_r1, List.forall_mem_append.mpr ⟨lw_r2, List.forall_mem_append.mpr ⟨lw_r3, List.forall_mem_append.mpr ⟨lw_r4, lw_r5⟩⟩⟩⟩
end
section
def RX0 : String := "VeilSteps$Course"
def TX0 : u_T := fun k => match k with
  | 0 => ("VeilSteps$Course", "year", "I", false)
  | 1 => ("VeilSteps$Course", "cloth", "I", false)
  | 2 => ("VeilSteps$Course", "order", "I", false)
  | _ => ("VeilSteps$Course", "seen", "[I", true)
def tyX0 : Nat → FieldType := fun k => match k with
  | 0 => .int
  | 1 => .int
  | 2 => .int
  | _ => .array .int
theorem nmX0 : ∀ a, a < 4 → ∀ b, b < 4 → a ≠ b → (TX0 a).2.1 ≠ (TX0 b).2.1 := by decide +kernel
theorem tyX0_ok : ∀ k, k < 4 → parseFieldDescriptor (TX0 k).2.2.1 = some (tyX0 k) := by decide +kernel
abbrev cX0_init : ByteArray := prog_2_method_1_code
def yX0_init : MethodName := ⟨RX0, "<init>", "()V"⟩
abbrev cX0_seenTogether : ByteArray := prog_2_method_2_code
def yX0_seenTogether : MethodName := ⟨RX0, "seenTogether", "()I"⟩
abbrev cX0_seenBy : ByteArray := prog_2_method_3_code
def yX0_seenBy : MethodName := ⟨RX0, "seenBy", "(I)I"⟩
abbrev cX0_seersOf : ByteArray := prog_2_method_4_code
def yX0_seersOf : MethodName := ⟨RX0, "seersOf", "(I)I"⟩
abbrev cX0_copy : ByteArray := prog_2_method_5_code
def yX0_copy : MethodName := ⟨RX0, "copy", "(LVeilSteps$Course;)V"⟩
def RX1 : String := "VeilSteps$Kin"
def TX1 : u_T := fun k => match k with
  | 0 => ("VeilSteps$Kin", "count", "I", false)
  | 1 => ("VeilSteps$Kin", "kind", "[I", true)
  | 2 => ("VeilSteps$Kin", "m", "[I", true)
  | 3 => ("VeilSteps$Kin", "parent", "[I", true)
  | 4 => ("VeilSteps$Kin", "spouse", "[I", true)
  | _ => ("VeilSteps$Kin", "measured", "[I", true)
def tyX1 : Nat → FieldType := fun k => match k with
  | 0 => .int
  | 1 => .array .int
  | 2 => .array .int
  | 3 => .array .int
  | 4 => .array .int
  | _ => .array .int
theorem nmX1 : ∀ a, a < 6 → ∀ b, b < 6 → a ≠ b → (TX1 a).2.1 ≠ (TX1 b).2.1 := by decide +kernel
theorem tyX1_ok : ∀ k, k < 6 → parseFieldDescriptor (TX1 k).2.2.1 = some (tyX1 k) := by decide +kernel
abbrev cX1_init : ByteArray := prog_3_method_1_code
def yX1_init : MethodName := ⟨RX1, "<init>", "()V"⟩
abbrev cX1_has : ByteArray := prog_3_method_2_code
def yX1_has : MethodName := ⟨RX1, "has", "(I)Z"⟩
abbrev cX1_isSet : ByteArray := prog_3_method_3_code
def yX1_isSet : MethodName := ⟨RX1, "isSet", "(I)Z"⟩
abbrev cX1_isFree : ByteArray := prog_3_method_4_code
def yX1_isFree : MethodName := ⟨RX1, "isFree", "(I)Z"⟩
abbrev cX1_add : ByteArray := prog_3_method_5_code
def yX1_add : MethodName := ⟨RX1, "add", "(III)I"⟩
abbrev cX1_giveParent : ByteArray := prog_3_method_6_code
def yX1_giveParent : MethodName := ⟨RX1, "giveParent", "(II)V"⟩
abbrev cX1_join : ByteArray := prog_3_method_7_code
def yX1_join : MethodName := ⟨RX1, "join", "(II)V"⟩
abbrev cX1_part : ByteArray := prog_3_method_8_code
def yX1_part : MethodName := ⟨RX1, "part", "(II)V"⟩
abbrev cX1_between : ByteArray := prog_3_method_9_code
def yX1_between : MethodName := ⟨RX1, "between", "(II)I"⟩
abbrev cX1_nearTo : ByteArray := prog_3_method_10_code
def yX1_nearTo : MethodName := ⟨RX1, "nearTo", "(I)I"⟩
abbrev cX1_measure : ByteArray := prog_3_method_11_code
def yX1_measure : MethodName := ⟨RX1, "measure", "()V"⟩
abbrev cX1_link : ByteArray := prog_3_method_12_code
def yX1_link : MethodName := ⟨RX1, "link", "(II)V"⟩
abbrev cX1_shortenBy : ByteArray := prog_3_method_13_code
def yX1_shortenBy : MethodName := ⟨RX1, "shortenBy", "(II)V"⟩
abbrev cX1_bestMatch : ByteArray := prog_3_method_14_code
def yX1_bestMatch : MethodName := ⟨RX1, "bestMatch", "(II)I"⟩
abbrev cX1_byMarriage : ByteArray := prog_3_method_15_code
def yX1_byMarriage : MethodName := ⟨RX1, "byMarriage", "(IIII)I"⟩
abbrev cX1_copy : ByteArray := prog_3_method_16_code
def yX1_copy : MethodName := ⟨RX1, "copy", "(LVeilSteps$Kin;)V"⟩
def RX2 : String := "VeilSteps$Kinds"
def TX2 : u_T := fun k => match k with
  | _ => ("", "", "", false)
def tyX2 : Nat → FieldType := fun k => match k with
  | _ => .int
theorem nmX2 : ∀ a, a < 0 → ∀ b, b < 0 → a ≠ b → (TX2 a).2.1 ≠ (TX2 b).2.1 := by decide +kernel
theorem tyX2_ok : ∀ k, k < 0 → parseFieldDescriptor (TX2 k).2.2.1 = some (tyX2 k) := by decide +kernel
abbrev cX2_isKind : ByteArray := prog_4_method_2_code
def yX2_isKind : MethodName := ⟨RX2, "isKind", "(I)Z"⟩
abbrev cX2_above : ByteArray := prog_4_method_3_code
def yX2_above : MethodName := ⟨RX2, "above", "(I)I"⟩
abbrev cX2_isUnder : ByteArray := prog_4_method_4_code
def yX2_isUnder : MethodName := ⟨RX2, "isUnder", "(II)Z"⟩
abbrev cX2_letDown : ByteArray := prog_4_method_5_code
def yX2_letDown : MethodName := ⟨RX2, "letDown", "(III)I"⟩
abbrev cX2_judged : ByteArray := prog_4_method_6_code
def yX2_judged : MethodName := ⟨RX2, "judged", "(I)I"⟩
abbrev cX2_lookThrough : ByteArray := prog_4_method_7_code
def yX2_lookThrough : MethodName := ⟨RX2, "lookThrough", "(IIII)I"⟩
def RX3 : String := "VeilSteps$Reader"
def TX3 : u_T := fun k => match k with
  | 0 => ("VeilSteps$Reader", "tape", "LVeilSteps$Row;", true)
  | 1 => ("VeilSteps$Reader", "code", "LVeilSteps$Row;", true)
  | 2 => ("VeilSteps$Reader", "names", "Ljava/lang/String;", false)
  | _ => ("VeilSteps$Reader", "at", "I", false)
def tyX3 : Nat → FieldType := fun k => match k with
  | 0 => .object "VeilSteps$Row"
  | 1 => .object "VeilSteps$Row"
  | 2 => .object "java/lang/String"
  | _ => .int
theorem nmX3 : ∀ a, a < 4 → ∀ b, b < 4 → a ≠ b → (TX3 a).2.1 ≠ (TX3 b).2.1 := by decide +kernel
theorem tyX3_ok : ∀ k, k < 4 → parseFieldDescriptor (TX3 k).2.2.1 = some (tyX3 k) := by decide +kernel
abbrev cX3_init : ByteArray := prog_5_method_1_code
def yX3_init : MethodName := ⟨RX3, "<init>", "(LVeilSteps$Row;)V"⟩
abbrev cX3_faultFor : ByteArray := prog_5_method_2_code
def yX3_faultFor : MethodName := ⟨RX3, "faultFor", "(I)I"⟩
abbrev cX3_readsLevel : ByteArray := prog_5_method_3_code
def yX3_readsLevel : MethodName := ⟨RX3, "readsLevel", "(II)Z"⟩
abbrev cX3_readsUnit : ByteArray := prog_5_method_4_code
def yX3_readsUnit : MethodName := ⟨RX3, "readsUnit", "(I)Z"⟩
abbrev cX3_readsDenied : ByteArray := prog_5_method_5_code
def yX3_readsDenied : MethodName := ⟨RX3, "readsDenied", "(I)Z"⟩
abbrev cX3_readsClosed : ByteArray := prog_5_method_6_code
def yX3_readsClosed : MethodName := ⟨RX3, "readsClosed", "(I)Z"⟩
abbrev cX3_readNumber : ByteArray := prog_5_method_7_code
def yX3_readNumber : MethodName := ⟨RX3, "readNumber", "()V"⟩
abbrev cX3_isDigit : ByteArray := prog_5_method_8_code
def yX3_isDigit : MethodName := ⟨RX3, "isDigit", "(I)Z"⟩
abbrev cX3_levelOf : ByteArray := prog_5_method_9_code
def yX3_levelOf : MethodName := ⟨RX3, "levelOf", "(I)I"⟩
def RX4 : String := "VeilSteps$Row"
def TX4 : u_T := fun k => match k with
  | 0 => ("VeilSteps$Row", "numbers", "[I", true)
  | _ => ("VeilSteps$Row", "length", "I", false)
def tyX4 : Nat → FieldType := fun k => match k with
  | 0 => .array .int
  | _ => .int
theorem nmX4 : ∀ a, a < 2 → ∀ b, b < 2 → a ≠ b → (TX4 a).2.1 ≠ (TX4 b).2.1 := by decide +kernel
theorem tyX4_ok : ∀ k, k < 2 → parseFieldDescriptor (TX4 k).2.2.1 = some (tyX4 k) := by decide +kernel
abbrev cX4_init : ByteArray := prog_6_method_1_code
def yX4_init : MethodName := ⟨RX4, "<init>", "(I)V"⟩
abbrev cX4_size : ByteArray := prog_6_method_2_code
def yX4_size : MethodName := ⟨RX4, "size", "()I"⟩
abbrev cX4_hasRoom : ByteArray := prog_6_method_3_code
def yX4_hasRoom : MethodName := ⟨RX4, "hasRoom", "(I)Z"⟩
abbrev cX4_stands : ByteArray := prog_6_method_4_code
def yX4_stands : MethodName := ⟨RX4, "stands", "(I)Z"⟩
abbrev cX4_stand : ByteArray := prog_6_method_5_code
def yX4_stand : MethodName := ⟨RX4, "stand", "(II)Z"⟩
abbrev cX4_at : ByteArray := prog_6_method_6_code
def yX4_at : MethodName := ⟨RX4, "at", "(I)I"⟩
abbrev cX4_write : ByteArray := prog_6_method_7_code
def yX4_write : MethodName := ⟨RX4, "write", "(II)V"⟩
abbrev cX4_add : ByteArray := prog_6_method_8_code
def yX4_add : MethodName := ⟨RX4, "add", "(I)V"⟩
abbrev cX4_clear : ByteArray := prog_6_method_9_code
def yX4_clear : MethodName := ⟨RX4, "clear", "()V"⟩
abbrev cX4_copy : ByteArray := prog_6_method_10_code
def yX4_copy : MethodName := ⟨RX4, "copy", "(LVeilSteps$Row;)V"⟩
abbrev cX4_take : ByteArray := prog_6_method_11_code
def yX4_take : MethodName := ⟨RX4, "take", "(ILVeilSteps$Row;II)V"⟩
def RX5 : String := "VeilSteps$Sheet"
def TX5 : u_T := fun k => match k with
  | 0 => ("VeilSteps$Sheet", "row", "LVeilSteps$Row;", true)
  | _ => ("VeilSteps$Sheet", "bits", "I", false)
def tyX5 : Nat → FieldType := fun k => match k with
  | 0 => .object "VeilSteps$Row"
  | _ => .int
theorem nmX5 : ∀ a, a < 2 → ∀ b, b < 2 → a ≠ b → (TX5 a).2.1 ≠ (TX5 b).2.1 := by decide +kernel
theorem tyX5_ok : ∀ k, k < 2 → parseFieldDescriptor (TX5 k).2.2.1 = some (tyX5 k) := by decide +kernel
abbrev cX5_init : ByteArray := prog_7_method_1_code
def yX5_init : MethodName := ⟨RX5, "<init>", "()V"⟩
abbrev cX5_areBits : ByteArray := prog_7_method_2_code
def yX5_areBits : MethodName := ⟨RX5, "areBits", "(I)Z"⟩
abbrev cX5_isMissing : ByteArray := prog_7_method_3_code
def yX5_isMissing : MethodName := ⟨RX5, "isMissing", "()Z"⟩
abbrev cX5_makeNew : ByteArray := prog_7_method_4_code
def yX5_makeNew : MethodName := ⟨RX5, "makeNew", "(II)V"⟩
abbrev cX5_write : ByteArray := prog_7_method_5_code
def yX5_write : MethodName := ⟨RX5, "write", "(II)V"⟩
def RX6 : String := "VeilSteps$Text"
def TX6 : u_T := fun k => match k with
  | 0 => ("VeilSteps$Text", "code", "LVeilSteps$Row;", true)
  | _ => ("VeilSteps$Text", "pile", "[I", true)
def tyX6 : Nat → FieldType := fun k => match k with
  | 0 => .object "VeilSteps$Row"
  | _ => .array .int
theorem nmX6 : ∀ a, a < 2 → ∀ b, b < 2 → a ≠ b → (TX6 a).2.1 ≠ (TX6 b).2.1 := by decide +kernel
theorem tyX6_ok : ∀ k, k < 2 → parseFieldDescriptor (TX6 k).2.2.1 = some (tyX6 k) := by decide +kernel
abbrev cX6_init : ByteArray := prog_8_method_1_code
def yX6_init : MethodName := ⟨RX6, "<init>", "()V"⟩
abbrev cX6_isGiven : ByteArray := prog_8_method_2_code
def yX6_isGiven : MethodName := ⟨RX6, "isGiven", "()Z"⟩
abbrev cX6_worked : ByteArray := prog_8_method_3_code
def yX6_worked : MethodName := ⟨RX6, "worked", "(III)I"⟩
abbrev cX6_named : ByteArray := prog_8_method_4_code
def yX6_named : MethodName := ⟨RX6, "named", "(IIII)I"⟩
abbrev cX6_joined : ByteArray := prog_8_method_5_code
def yX6_joined : MethodName := ⟨RX6, "joined", "(III)I"⟩
def RX7 : String := "VeilSteps$Voices"
def TX7 : u_T := fun k => match k with
  | 0 => ("VeilSteps$Voices", "trace", "LVeilSteps$Row;", true)
  | 1 => ("VeilSteps$Voices", "kind", "I", false)
  | 2 => ("VeilSteps$Voices", "k", "I", false)
  | 3 => ("VeilSteps$Voices", "m", "I", false)
  | _ => ("VeilSteps$Voices", "parted", "Z", false)
def tyX7 : Nat → FieldType := fun k => match k with
  | 0 => .object "VeilSteps$Row"
  | 1 => .int
  | 2 => .int
  | 3 => .int
  | _ => .boolean
theorem nmX7 : ∀ a, a < 5 → ∀ b, b < 5 → a ≠ b → (TX7 a).2.1 ≠ (TX7 b).2.1 := by decide +kernel
theorem tyX7_ok : ∀ k, k < 5 → parseFieldDescriptor (TX7 k).2.2.1 = some (tyX7 k) := by decide +kernel
abbrev cX7_init : ByteArray := prog_9_method_1_code
def yX7_init : MethodName := ⟨RX7, "<init>", "()V"⟩
abbrev cX7_isVoice : ByteArray := prog_9_method_2_code
def yX7_isVoice : MethodName := ⟨RX7, "isVoice", "(I)Z"⟩
abbrev cX7_begin : ByteArray := prog_9_method_3_code
def yX7_begin : MethodName := ⟨RX7, "begin", "(III)V"⟩
abbrev cX7_speak : ByteArray := prog_9_method_4_code
def yX7_speak : MethodName := ⟨RX7, "speak", "(II)I"⟩
abbrev cX7_spoken : ByteArray := prog_9_method_5_code
def yX7_spoken : MethodName := ⟨RX7, "spoken", "(IIII)I"⟩
abbrev cX7_own : ByteArray := prog_9_method_6_code
def yX7_own : MethodName := ⟨RX7, "own", "(III)I"⟩
abbrev cX7_worked : ByteArray := prog_9_method_7_code
def yX7_worked : MethodName := ⟨RX7, "worked", "(IIII)I"⟩
abbrev cX7_partsBy : ByteArray := prog_9_method_8_code
def yX7_partsBy : MethodName := ⟨RX7, "partsBy", "(II)I"⟩
abbrev cX7_heiressParts : ByteArray := prog_9_method_9_code
def yX7_heiressParts : MethodName := ⟨RX7, "heiressParts", "(III)I"⟩
def RX8 : String := "VeilSteps$World"
def TX8 : u_T := fun k => match k with
  | 0 => ("VeilSteps$World", "kin", "LVeilSteps$Kin;", true)
  | 1 => ("VeilSteps$World", "course", "LVeilSteps$Course;", true)
  | 2 => ("VeilSteps$World", "looker", "[I", true)
  | 3 => ("VeilSteps$World", "met", "[I", true)
  | 4 => ("VeilSteps$World", "texts", "[LVeilSteps$Text;", true)
  | 5 => ("VeilSteps$World", "tape", "LVeilSteps$Row;", true)
  | 6 => ("VeilSteps$World", "waiting", "LVeilSteps$Row;", true)
  | _ => ("VeilSteps$World", "z", "I", false)
def tyX8 : Nat → FieldType := fun k => match k with
  | 0 => .object "VeilSteps$Kin"
  | 1 => .object "VeilSteps$Course"
  | 2 => .array .int
  | 3 => .array .int
  | 4 => .array (.object "VeilSteps$Text")
  | 5 => .object "VeilSteps$Row"
  | 6 => .object "VeilSteps$Row"
  | _ => .int
theorem nmX8 : ∀ a, a < 8 → ∀ b, b < 8 → a ≠ b → (TX8 a).2.1 ≠ (TX8 b).2.1 := by decide +kernel
theorem tyX8_ok : ∀ k, k < 8 → parseFieldDescriptor (TX8 k).2.2.1 = some (tyX8 k) := by decide +kernel
abbrev cX8_init : ByteArray := prog_10_method_1_code
def yX8_init : MethodName := ⟨RX8, "<init>", "()V"⟩
abbrev cX8_gives : ByteArray := prog_10_method_2_code
def yX8_gives : MethodName := ⟨RX8, "gives", "(IIII)I"⟩
abbrev cX8_veilsOf : ByteArray := prog_10_method_3_code
def yX8_veilsOf : MethodName := ⟨RX8, "veilsOf", "(IILVeilSteps$Course;)I"⟩
abbrev cX8_sightOf : ByteArray := prog_10_method_4_code
def yX8_sightOf : MethodName := ⟨RX8, "sightOf", "(ILVeilSteps$Course;)I"⟩
abbrev cX8_passYears : ByteArray := prog_10_method_5_code
def yX8_passYears : MethodName := ⟨RX8, "passYears", "(LVeilSteps$Course;I)V"⟩
abbrev cX8_passYear : ByteArray := prog_10_method_6_code
def yX8_passYear : MethodName := ⟨RX8, "passYear", "(LVeilSteps$Course;II)V"⟩
abbrev cX8_drawMeeting : ByteArray := prog_10_method_7_code
def yX8_drawMeeting : MethodName := ⟨RX8, "drawMeeting", "()V"⟩
abbrev cX8_draw : ByteArray := prog_10_method_8_code
def yX8_draw : MethodName := ⟨RX8, "draw", "()I"⟩
abbrev cX8_placeOf : ByteArray := prog_10_method_9_code
def yX8_placeOf : MethodName := ⟨RX8, "placeOf", "(I)I"⟩
abbrev cX8_throughTo : ByteArray := prog_10_method_10_code
def yX8_throughTo : MethodName := ⟨RX8, "throughTo", "(I)I"⟩
abbrev cX8_parentsFitting : ByteArray := prog_10_method_11_code
def yX8_parentsFitting : MethodName := ⟨RX8, "parentsFitting", "(LVeilSteps$Row;I)I"⟩
abbrev cX8_wouldLet : ByteArray := prog_10_method_12_code
def yX8_wouldLet : MethodName := ⟨RX8, "wouldLet", "(ILVeilSteps$Row;)Z"⟩
abbrev cX8_copy : ByteArray := prog_10_method_13_code
def yX8_copy : MethodName := ⟨RX8, "copy", "(LVeilSteps$World;)V"⟩
def RX9 : String := "VeilSteps"
def TX9 : u_T := fun k => match k with
  | 0 => ("VeilSteps", "now", "LVeilSteps$World;", true)
  | 1 => ("VeilSteps", "kept", "LVeilSteps$World;", true)
  | 2 => ("VeilSteps", "thought", "LVeilSteps$Course;", true)
  | 3 => ("VeilSteps", "reader", "LVeilSteps$Reader;", true)
  | 4 => ("VeilSteps", "voices", "LVeilSteps$Voices;", true)
  | 5 => ("VeilSteps", "sheets", "[LVeilSteps$Sheet;", true)
  | 6 => ("VeilSteps", "errors", "[I", true)
  | _ => ("VeilSteps", "images", "I", false)
def tyX9 : Nat → FieldType := fun k => match k with
  | 0 => .object "VeilSteps$World"
  | 1 => .object "VeilSteps$World"
  | 2 => .object "VeilSteps$Course"
  | 3 => .object "VeilSteps$Reader"
  | 4 => .object "VeilSteps$Voices"
  | 5 => .array (.object "VeilSteps$Sheet")
  | 6 => .array .int
  | _ => .int
theorem nmX9 : ∀ a, a < 8 → ∀ b, b < 8 → a ≠ b → (TX9 a).2.1 ≠ (TX9 b).2.1 := by decide +kernel
theorem tyX9_ok : ∀ k, k < 8 → parseFieldDescriptor (TX9 k).2.2.1 = some (tyX9 k) := by decide +kernel
abbrev cX9_init : ByteArray := prog_1_method_1_code
def yX9_init : MethodName := ⟨RX9, "<init>", "()V"⟩
abbrev cX9_person : ByteArray := prog_1_method_2_code
def yX9_person : MethodName := ⟨RX9, "person", "(II)I"⟩
abbrev cX9_personIs : ByteArray := prog_1_method_3_code
def yX9_personIs : MethodName := ⟨RX9, "personIs", "(II)I"⟩
abbrev cX9_become : ByteArray := prog_1_method_4_code
def yX9_become : MethodName := ⟨RX9, "become", "(II)I"⟩
abbrev cX9_as : ByteArray := prog_1_method_5_code
def yX9_as : MethodName := ⟨RX9, "as", "(II)I"⟩
abbrev cX9_descends : ByteArray := prog_1_method_6_code
def yX9_descends : MethodName := ⟨RX9, "descends", "(II)I"⟩
abbrev cX9_marries : ByteArray := prog_1_method_7_code
def yX9_marries : MethodName := ⟨RX9, "marries", "(II)I"⟩
abbrev cX9_parts : ByteArray := prog_1_method_8_code
def yX9_parts : MethodName := ⟨RX9, "parts", "(I)I"⟩
abbrev cX9_steps : ByteArray := prog_1_method_9_code
def yX9_steps : MethodName := ⟨RX9, "steps", "(II)I"⟩
abbrev cX9_lets : ByteArray := prog_1_method_10_code
def yX9_lets : MethodName := ⟨RX9, "lets", "(II)I"⟩
abbrev cX9_meets : ByteArray := prog_1_method_11_code
def yX9_meets : MethodName := ⟨RX9, "meets", "(III)I"⟩
abbrev cX9_trade : ByteArray := prog_1_method_12_code
def yX9_trade : MethodName := ⟨RX9, "trade", "(II)I"⟩
abbrev cX9_feed : ByteArray := prog_1_method_13_code
def yX9_feed : MethodName := ⟨RX9, "feed", "(JI)I"⟩
abbrev cX9_text : ByteArray := prog_1_method_14_code
def yX9_text : MethodName := ⟨RX9, "text", "(I)I"⟩
abbrev cX9_untell : ByteArray := prog_1_method_15_code
def yX9_untell : MethodName := ⟨RX9, "untell", "(I)I"⟩
abbrev cX9_law : ByteArray := prog_1_method_16_code
def yX9_law : MethodName := ⟨RX9, "law", "(IIII)I"⟩
abbrev cX9_years : ByteArray := prog_1_method_17_code
def yX9_years : MethodName := ⟨RX9, "years", "(I)I"⟩
abbrev cX9_loose : ByteArray := prog_1_method_18_code
def yX9_loose : MethodName := ⟨RX9, "loose", "(I)I"⟩
abbrev cX9_year : ByteArray := prog_1_method_19_code
def yX9_year : MethodName := ⟨RX9, "year", "(I)I"⟩
abbrev cX9_seed : ByteArray := prog_1_method_20_code
def yX9_seed : MethodName := ⟨RX9, "seed", "(I)I"⟩
abbrev cX9_then : ByteArray := prog_1_method_21_code
def yX9_then : MethodName := ⟨RX9, "then", "(II)I"⟩
abbrev cX9_soonest : ByteArray := prog_1_method_22_code
def yX9_soonest : MethodName := ⟨RX9, "soonest", "(II)I"⟩
abbrev cX9_match : ByteArray := prog_1_method_23_code
def yX9_match : MethodName := ⟨RX9, "match", "(III)I"⟩
abbrev cX9_orderFor : ByteArray := prog_1_method_24_code
def yX9_orderFor : MethodName := ⟨RX9, "orderFor", "(II)I"⟩
abbrev cX9_seers : ByteArray := prog_1_method_25_code
def yX9_seers : MethodName := ⟨RX9, "seers", "(I)I"⟩
abbrev cX9_witnesses : ByteArray := prog_1_method_26_code
def yX9_witnesses : MethodName := ⟨RX9, "witnesses", "(I)I"⟩
abbrev cX9_odds : ByteArray := prog_1_method_27_code
def yX9_odds : MethodName := ⟨RX9, "odds", "(II)I"⟩
abbrev cX9_fits : ByteArray := prog_1_method_28_code
def yX9_fits : MethodName := ⟨RX9, "fits", "(III)I"⟩
abbrev cX9_voice : ByteArray := prog_1_method_29_code
def yX9_voice : MethodName := ⟨RX9, "voice", "(III)I"⟩
abbrev cX9_body : ByteArray := prog_1_method_30_code
def yX9_body : MethodName := ⟨RX9, "body", "(I)I"⟩
abbrev cX9_sheet : ByteArray := prog_1_method_31_code
def yX9_sheet : MethodName := ⟨RX9, "sheet", "(III)I"⟩
abbrev cX9_put : ByteArray := prog_1_method_32_code
def yX9_put : MethodName := ⟨RX9, "put", "(III)I"⟩
abbrev cX9_move : ByteArray := prog_1_method_33_code
def yX9_move : MethodName := ⟨RX9, "move", "(IIIII)I"⟩
abbrev cX9_seenAll : ByteArray := prog_1_method_34_code
def yX9_seenAll : MethodName := ⟨RX9, "seenAll", "(I)I"⟩
abbrev cX9_judge : ByteArray := prog_1_method_35_code
def yX9_judge : MethodName := ⟨RX9, "judge", "(I)I"⟩
abbrev cX9_image : ByteArray := prog_1_method_36_code
def yX9_image : MethodName := ⟨RX9, "image", "()I"⟩
abbrev cX9_restore : ByteArray := prog_1_method_37_code
def yX9_restore : MethodName := ⟨RX9, "restore", "()I"⟩
abbrev cX9_tell : ByteArray := prog_1_method_38_code
def yX9_tell : MethodName := ⟨RX9, "tell", "(I)I"⟩
abbrev cX9_check : ByteArray := prog_1_method_39_code
def yX9_check : MethodName := ⟨RX9, "check", "()I"⟩
abbrev cX9_count : ByteArray := prog_1_method_40_code
def yX9_count : MethodName := ⟨RX9, "count", "(I)I"⟩
abbrev cX9_told : ByteArray := prog_1_method_41_code
def yX9_told : MethodName := ⟨RX9, "told", "(I)I"⟩
abbrev cX9_fail : ByteArray := prog_1_method_42_code
def yX9_fail : MethodName := ⟨RX9, "fail", "(I)I"⟩
abbrev cX9_isKm : ByteArray := prog_1_method_43_code
def yX9_isKm : MethodName := ⟨RX9, "isKm", "(I)Z"⟩
abbrev cX9_isNumber : ByteArray := prog_1_method_44_code
def yX9_isNumber : MethodName := ⟨RX9, "isNumber", "(I)Z"⟩
abbrev cX9_isUse : ByteArray := prog_1_method_45_code
def yX9_isUse : MethodName := ⟨RX9, "isUse", "(I)Z"⟩
abbrev cX9_isSheet : ByteArray := prog_1_method_46_code
def yX9_isSheet : MethodName := ⟨RX9, "isSheet", "(I)Z"⟩
abbrev cX9_isIn : ByteArray := prog_1_method_47_code
def yX9_isIn : MethodName := ⟨RX9, "isIn", "(II)Z"⟩
abbrev cX9_greatestDivisor : ByteArray := prog_1_method_48_code
def yX9_greatestDivisor : MethodName := ⟨RX9, "greatestDivisor", "(II)I"⟩
def RX10 : String := "VeilStepsModel"
def TX10 : u_T := fun k => match k with
  | 0 => ("VeilStepsModel", "row", "[I", true)
  | 1 => ("VeilStepsModel", "kept", "[I", true)
  | 2 => ("VeilStepsModel", "before", "[I", true)
  | 3 => ("VeilStepsModel", "images", "I", false)
  | 4 => ("VeilStepsModel", "errors", "[I", true)
  | 5 => ("VeilStepsModel", "bitsOf", "[I", true)
  | 6 => ("VeilStepsModel", "sizeOf", "[I", true)
  | 7 => ("VeilStepsModel", "cells", "[I", true)
  | 8 => ("VeilStepsModel", "act", "[I", true)
  | 9 => ("VeilStepsModel", "with", "[I", true)
  | 10 => ("VeilStepsModel", "facts", "[I", true)
  | 11 => ("VeilStepsModel", "pile", "[I", true)
  | 12 => ("VeilStepsModel", "laid", "I", false)
  | 13 => ("VeilStepsModel", "here", "I", false)
  | 14 => ("VeilStepsModel", "opened", "I", false)
  | 15 => ("VeilStepsModel", "bad", "Z", false)
  | 16 => ("VeilStepsModel", "using", "I", false)
  | 17 => ("VeilStepsModel", "trace", "[I", true)
  | 18 => ("VeilStepsModel", "traced", "I", false)
  | _ => ("VeilStepsModel", "isParted", "Z", false)
def tyX10 : Nat → FieldType := fun k => match k with
  | 0 => .array .int
  | 1 => .array .int
  | 2 => .array .int
  | 3 => .int
  | 4 => .array .int
  | 5 => .array .int
  | 6 => .array .int
  | 7 => .array .int
  | 8 => .array .int
  | 9 => .array .int
  | 10 => .array .int
  | 11 => .array .int
  | 12 => .int
  | 13 => .int
  | 14 => .int
  | 15 => .boolean
  | 16 => .int
  | 17 => .array .int
  | 18 => .int
  | _ => .boolean
theorem nmX10 : ∀ a, a < 20 → ∀ b, b < 20 → a ≠ b → (TX10 a).2.1 ≠ (TX10 b).2.1 := by decide +kernel
theorem tyX10_ok : ∀ k, k < 20 → parseFieldDescriptor (TX10 k).2.2.1 = some (tyX10 k) := by decide +kernel
abbrev cX10_init : ByteArray := prog_12_method_1_code
def yX10_init : MethodName := ⟨RX10, "<init>", "()V"⟩
abbrev cX10_error : ByteArray := prog_12_method_2_code
def yX10_error : MethodName := ⟨RX10, "error", "(I)I"⟩
abbrev cX10_in : ByteArray := prog_12_method_3_code
def yX10_in : MethodName := ⟨RX10, "in", "(III)Z"⟩
abbrev cX10_held : ByteArray := prog_12_method_4_code
def yX10_held : MethodName := ⟨RX10, "held", "(III)I"⟩
abbrev cX10_copyAll : ByteArray := prog_12_method_5_code
def yX10_copyAll : MethodName := ⟨RX10, "copyAll", "([I[I)V"⟩
abbrev cX10_thinks : ByteArray := prog_12_method_6_code
def yX10_thinks : MethodName := ⟨RX10, "thinks", "()V"⟩
abbrev cX10_putsBack : ByteArray := prog_12_method_7_code
def yX10_putsBack : MethodName := ⟨RX10, "putsBack", "()V"⟩
abbrev cX10_bits : ByteArray := prog_12_method_8_code
def yX10_bits : MethodName := ⟨RX10, "bits", "(I)I"⟩
abbrev cX10_isPerson : ByteArray := prog_12_method_9_code
def yX10_isPerson : MethodName := ⟨RX10, "isPerson", "(I)Z"⟩
abbrev cX10_becomes : ByteArray := prog_12_method_10_code
def yX10_becomes : MethodName := ⟨RX10, "becomes", "(II)I"⟩
abbrev cX10_of : ByteArray := prog_12_method_11_code
def yX10_of : MethodName := ⟨RX10, "of", "(II)I"⟩
abbrev cX10_puts : ByteArray := prog_12_method_12_code
def yX10_puts : MethodName := ⟨RX10, "puts", "(III)V"⟩
abbrev cX10_isKin : ByteArray := prog_12_method_13_code
def yX10_isKin : MethodName := ⟨RX10, "isKin", "(II)Z"⟩
abbrev cX10_besides : ByteArray := prog_12_method_14_code
def yX10_besides : MethodName := ⟨RX10, "besides", "(I)I"⟩
abbrev cX10_stepsBy : ByteArray := prog_12_method_15_code
def yX10_stepsBy : MethodName := ⟨RX10, "stepsBy", "(II)I"⟩
abbrev cX10_relatives : ByteArray := prog_12_method_16_code
def yX10_relatives : MethodName := ⟨RX10, "relatives", "(I)I"⟩
abbrev cX10_letsBy : ByteArray := prog_12_method_17_code
def yX10_letsBy : MethodName := ⟨RX10, "letsBy", "(II)I"⟩
abbrev cX10_eyes : ByteArray := prog_12_method_18_code
def yX10_eyes : MethodName := ⟨RX10, "eyes", "(I)I"⟩
abbrev cX10_veils : ByteArray := prog_12_method_19_code
def yX10_veils : MethodName := ⟨RX10, "veils", "(II)I"⟩
abbrev cX10_sight : ByteArray := prog_12_method_20_code
def yX10_sight : MethodName := ⟨RX10, "sight", "(I)I"⟩
abbrev cX10_allSeen : ByteArray := prog_12_method_21_code
def yX10_allSeen : MethodName := ⟨RX10, "allSeen", "()I"⟩
abbrev cX10_seersOf : ByteArray := prog_12_method_22_code
def yX10_seersOf : MethodName := ⟨RX10, "seersOf", "(I)I"⟩
abbrev cX10_isKm : ByteArray := prog_12_method_23_code
def yX10_isKm : MethodName := ⟨RX10, "isKm", "(I)Z"⟩
abbrev cX10_person : ByteArray := prog_12_method_24_code
def yX10_person : MethodName := ⟨RX10, "person", "(II)I"⟩
abbrev cX10_personIs : ByteArray := prog_12_method_25_code
def yX10_personIs : MethodName := ⟨RX10, "personIs", "(II)I"⟩
abbrev cX10_become : ByteArray := prog_12_method_26_code
def yX10_become : MethodName := ⟨RX10, "become", "(II)I"⟩
abbrev cX10_as : ByteArray := prog_12_method_27_code
def yX10_as : MethodName := ⟨RX10, "as", "(II)I"⟩
abbrev cX10_descends : ByteArray := prog_12_method_28_code
def yX10_descends : MethodName := ⟨RX10, "descends", "(II)I"⟩
abbrev cX10_weds : ByteArray := prog_12_method_29_code
def yX10_weds : MethodName := ⟨RX10, "weds", "(II)V"⟩
abbrev cX10_marries : ByteArray := prog_12_method_30_code
def yX10_marries : MethodName := ⟨RX10, "marries", "(II)I"⟩
abbrev cX10_parts : ByteArray := prog_12_method_31_code
def yX10_parts : MethodName := ⟨RX10, "parts", "(I)I"⟩
abbrev cX10_steps : ByteArray := prog_12_method_32_code
def yX10_steps : MethodName := ⟨RX10, "steps", "(II)I"⟩
abbrev cX10_lets : ByteArray := prog_12_method_33_code
def yX10_lets : MethodName := ⟨RX10, "lets", "(II)I"⟩
abbrev cX10_meets : ByteArray := prog_12_method_34_code
def yX10_meets : MethodName := ⟨RX10, "meets", "(III)I"⟩
abbrev cX10_trade : ByteArray := prog_12_method_35_code
def yX10_trade : MethodName := ⟨RX10, "trade", "(II)I"⟩
abbrev cX10_feed : ByteArray := prog_12_method_36_code
def yX10_feed : MethodName := ⟨RX10, "feed", "(JI)I"⟩
abbrev cX10_look : ByteArray := prog_12_method_37_code
def yX10_look : MethodName := ⟨RX10, "look", "()I"⟩
abbrev cX10_lays : ByteArray := prog_12_method_38_code
def yX10_lays : MethodName := ⟨RX10, "lays", "(II)V"⟩
abbrev cX10_nameOf : ByteArray := prog_12_method_39_code
def yX10_nameOf : MethodName := ⟨RX10, "nameOf", "(I)I"⟩
abbrev cX10_number : ByteArray := prog_12_method_40_code
def yX10_number : MethodName := ⟨RX10, "number", "()V"⟩
abbrev cX10_opens : ByteArray := prog_12_method_41_code
def yX10_opens : MethodName := ⟨RX10, "opens", "(I)V"⟩
abbrev cX10_one : ByteArray := prog_12_method_42_code
def yX10_one : MethodName := ⟨RX10, "one", "()V"⟩
abbrev cX10_times : ByteArray := prog_12_method_43_code
def yX10_times : MethodName := ⟨RX10, "times", "()V"⟩
abbrev cX10_sum : ByteArray := prog_12_method_44_code
def yX10_sum : MethodName := ⟨RX10, "sum", "()V"⟩
abbrev cX10_compares : ByteArray := prog_12_method_45_code
def yX10_compares : MethodName := ⟨RX10, "compares", "()V"⟩
abbrev cX10_all : ByteArray := prog_12_method_46_code
def yX10_all : MethodName := ⟨RX10, "all", "()V"⟩
abbrev cX10_any : ByteArray := prog_12_method_47_code
def yX10_any : MethodName := ⟨RX10, "any", "()V"⟩
abbrev cX10_text : ByteArray := prog_12_method_48_code
def yX10_text : MethodName := ⟨RX10, "text", "(I)I"⟩
abbrev cX10_untell : ByteArray := prog_12_method_49_code
def yX10_untell : MethodName := ⟨RX10, "untell", "(I)I"⟩
abbrev cX10_twoOf : ByteArray := prog_12_method_50_code
def yX10_twoOf : MethodName := ⟨RX10, "twoOf", "(III)I"⟩
abbrev cX10_works : ByteArray := prog_12_method_51_code
def yX10_works : MethodName := ⟨RX10, "works", "(I)I"⟩
abbrev cX10_gives : ByteArray := prog_12_method_52_code
def yX10_gives : MethodName := ⟨RX10, "gives", "(IIII)I"⟩
abbrev cX10_law : ByteArray := prog_12_method_53_code
def yX10_law : MethodName := ⟨RX10, "law", "(IIII)I"⟩
abbrev cX10_goes : ByteArray := prog_12_method_54_code
def yX10_goes : MethodName := ⟨RX10, "goes", "()V"⟩
abbrev cX10_goesFor : ByteArray := prog_12_method_55_code
def yX10_goesFor : MethodName := ⟨RX10, "goesFor", "(I)V"⟩
abbrev cX10_years : ByteArray := prog_12_method_56_code
def yX10_years : MethodName := ⟨RX10, "years", "(I)I"⟩
abbrev cX10_draw : ByteArray := prog_12_method_57_code
def yX10_draw : MethodName := ⟨RX10, "draw", "()I"⟩
abbrev cX10_drawn : ByteArray := prog_12_method_58_code
def yX10_drawn : MethodName := ⟨RX10, "drawn", "()V"⟩
abbrev cX10_loose : ByteArray := prog_12_method_59_code
def yX10_loose : MethodName := ⟨RX10, "loose", "(I)I"⟩
abbrev cX10_year : ByteArray := prog_12_method_60_code
def yX10_year : MethodName := ⟨RX10, "year", "(I)I"⟩
abbrev cX10_seed : ByteArray := prog_12_method_61_code
def yX10_seed : MethodName := ⟨RX10, "seed", "(I)I"⟩
abbrev cX10_then : ByteArray := prog_12_method_62_code
def yX10_then : MethodName := ⟨RX10, "then", "(II)I"⟩
abbrev cX10_soonest : ByteArray := prog_12_method_63_code
def yX10_soonest : MethodName := ⟨RX10, "soonest", "(II)I"⟩
abbrev cX10_match : ByteArray := prog_12_method_64_code
def yX10_match : MethodName := ⟨RX10, "match", "(III)I"⟩
abbrev cX10_orderFor : ByteArray := prog_12_method_65_code
def yX10_orderFor : MethodName := ⟨RX10, "orderFor", "(II)I"⟩
abbrev cX10_seers : ByteArray := prog_12_method_66_code
def yX10_seers : MethodName := ⟨RX10, "seers", "(I)I"⟩
abbrev cX10_seenBy : ByteArray := prog_12_method_67_code
def yX10_seenBy : MethodName := ⟨RX10, "seenBy", "(I)I"⟩
abbrev cX10_everybody : ByteArray := prog_12_method_68_code
def yX10_everybody : MethodName := ⟨RX10, "everybody", "()I"⟩
abbrev cX10_witnesses : ByteArray := prog_12_method_69_code
def yX10_witnesses : MethodName := ⟨RX10, "witnesses", "(I)I"⟩
abbrev cX10_odds : ByteArray := prog_12_method_70_code
def yX10_odds : MethodName := ⟨RX10, "odds", "(II)I"⟩
abbrev cX10_isSo : ByteArray := prog_12_method_71_code
def yX10_isSo : MethodName := ⟨RX10, "isSo", "(II)Z"⟩
abbrev cX10_fits : ByteArray := prog_12_method_72_code
def yX10_fits : MethodName := ⟨RX10, "fits", "(III)I"⟩
abbrev cX10_begins : ByteArray := prog_12_method_73_code
def yX10_begins : MethodName := ⟨RX10, "begins", "(I)V"⟩
abbrev cX10_plainLowers : ByteArray := prog_12_method_74_code
def yX10_plainLowers : MethodName := ⟨RX10, "plainLowers", "(II)I"⟩
abbrev cX10_heiressLowers : ByteArray := prog_12_method_75_code
def yX10_heiressLowers : MethodName := ⟨RX10, "heiressLowers", "(II)I"⟩
abbrev cX10_lowers : ByteArray := prog_12_method_76_code
def yX10_lowers : MethodName := ⟨RX10, "lowers", "(II)I"⟩
abbrev cX10_plainLifts : ByteArray := prog_12_method_77_code
def yX10_plainLifts : MethodName := ⟨RX10, "plainLifts", "(II)I"⟩
abbrev cX10_judgeLifts : ByteArray := prog_12_method_78_code
def yX10_judgeLifts : MethodName := ⟨RX10, "judgeLifts", "(II)I"⟩
abbrev cX10_lifts : ByteArray := prog_12_method_79_code
def yX10_lifts : MethodName := ⟨RX10, "lifts", "(II)I"⟩
abbrev cX10_plainLooks : ByteArray := prog_12_method_80_code
def yX10_plainLooks : MethodName := ⟨RX10, "plainLooks", "(II)I"⟩
abbrev cX10_looksBy : ByteArray := prog_12_method_81_code
def yX10_looksBy : MethodName := ⟨RX10, "looksBy", "(II)I"⟩
abbrev cX10_plainParts : ByteArray := prog_12_method_82_code
def yX10_plainParts : MethodName := ⟨RX10, "plainParts", "(II)I"⟩
abbrev cX10_partsBy : ByteArray := prog_12_method_83_code
def yX10_partsBy : MethodName := ⟨RX10, "partsBy", "(II)I"⟩
abbrev cX10_voice : ByteArray := prog_12_method_84_code
def yX10_voice : MethodName := ⟨RX10, "voice", "(III)I"⟩
abbrev cX10_body : ByteArray := prog_12_method_85_code
def yX10_body : MethodName := ⟨RX10, "body", "(I)I"⟩
abbrev cX10_isSheet : ByteArray := prog_12_method_86_code
def yX10_isSheet : MethodName := ⟨RX10, "isSheet", "(I)Z"⟩
abbrev cX10_sheet : ByteArray := prog_12_method_87_code
def yX10_sheet : MethodName := ⟨RX10, "sheet", "(III)I"⟩
abbrev cX10_notThere : ByteArray := prog_12_method_88_code
def yX10_notThere : MethodName := ⟨RX10, "notThere", "(I)I"⟩
abbrev cX10_put : ByteArray := prog_12_method_89_code
def yX10_put : MethodName := ⟨RX10, "put", "(III)I"⟩
abbrev cX10_notMoved : ByteArray := prog_12_method_90_code
def yX10_notMoved : MethodName := ⟨RX10, "notMoved", "(IIIII)I"⟩
abbrev cX10_move : ByteArray := prog_12_method_91_code
def yX10_move : MethodName := ⟨RX10, "move", "(IIIII)I"⟩
abbrev cX10_seenAll : ByteArray := prog_12_method_92_code
def yX10_seenAll : MethodName := ⟨RX10, "seenAll", "(I)I"⟩
abbrev cX10_judge : ByteArray := prog_12_method_93_code
def yX10_judge : MethodName := ⟨RX10, "judge", "(I)I"⟩
abbrev cX10_image : ByteArray := prog_12_method_94_code
def yX10_image : MethodName := ⟨RX10, "image", "()I"⟩
abbrev cX10_restore : ByteArray := prog_12_method_95_code
def yX10_restore : MethodName := ⟨RX10, "restore", "()I"⟩
abbrev cX10_tell : ByteArray := prog_12_method_96_code
def yX10_tell : MethodName := ⟨RX10, "tell", "(I)I"⟩
abbrev cX10_check : ByteArray := prog_12_method_97_code
def yX10_check : MethodName := ⟨RX10, "check", "()I"⟩
abbrev cX10_count : ByteArray := prog_12_method_98_code
def yX10_count : MethodName := ⟨RX10, "count", "(I)I"⟩
abbrev cX10_told : ByteArray := prog_12_method_99_code
def yX10_told : MethodName := ⟨RX10, "told", "(I)I"⟩
def RJ11 : String := "java/lang/Character"
def TJ11 : u_T := fun k => match k with
  | _ => ("", "", "", false)
def tyJ11 : Nat → FieldType := fun k => match k with
  | _ => .int
theorem nmJ11 : ∀ a, a < 0 → ∀ b, b < 0 → a ≠ b → (TJ11 a).2.1 ≠ (TJ11 b).2.1 := by decide +kernel
theorem tyJ11_ok : ∀ k, k < 0 → parseFieldDescriptor (TJ11 k).2.2.1 = some (tyJ11 k) := by decide +kernel
abbrev cJ11_isValidCodePoint_9a6ad : ByteArray := prog_13_method_11_code
def yJ11_isValidCodePoint_9a6ad : MethodName := ⟨RJ11, "isValidCodePoint", "(I)Z"⟩
abbrev cJ11_highSurrogate_5068e : ByteArray := prog_13_method_28_code
def yJ11_highSurrogate_5068e : MethodName := ⟨RJ11, "highSurrogate", "(I)C"⟩
abbrev cJ11_lowSurrogate_5068e : ByteArray := prog_13_method_29_code
def yJ11_lowSurrogate_5068e : MethodName := ⟨RJ11, "lowSurrogate", "(I)C"⟩
def RJ6 : String := "java/lang/Integer"
def TJ6 : u_T := fun k => match k with
  | _ => ("", "", "", false)
def tyJ6 : Nat → FieldType := fun k => match k with
  | _ => .int
theorem nmJ6 : ∀ a, a < 0 → ∀ b, b < 0 → a ≠ b → (TJ6 a).2.1 ≠ (TJ6 b).2.1 := by decide +kernel
theorem tyJ6_ok : ∀ k, k < 0 → parseFieldDescriptor (TJ6 k).2.2.1 = some (tyJ6 k) := by decide +kernel
abbrev cJ6_bitCount_0f7a4 : ByteArray := prog_14_method_49_code
def yJ6_bitCount_0f7a4 : MethodName := ⟨RJ6, "bitCount", "(I)I"⟩
def RJ9 : String := "java/lang/Math"
def TJ9 : u_T := fun k => match k with
  | _ => ("", "", "", false)
def tyJ9 : Nat → FieldType := fun k => match k with
  | _ => .int
theorem nmJ9 : ∀ a, a < 0 → ∀ b, b < 0 → a ≠ b → (TJ9 a).2.1 ≠ (TJ9 b).2.1 := by decide +kernel
theorem tyJ9_ok : ∀ k, k < 0 → parseFieldDescriptor (TJ9 k).2.2.1 = some (tyJ9 k) := by decide +kernel
abbrev cJ9_floorMod_7cf53 : ByteArray := prog_15_method_50_code
def yJ9_floorMod_7cf53 : MethodName := ⟨RJ9, "floorMod", "(II)I"⟩
abbrev cJ9_max_7cf53 : ByteArray := prog_15_method_65_code
def yJ9_max_7cf53 : MethodName := ⟨RJ9, "max", "(II)I"⟩
abbrev cJ9_min_7cf53 : ByteArray := prog_15_method_69_code
def yJ9_min_7cf53 : MethodName := ⟨RJ9, "min", "(II)I"⟩
def RJ0 : String := "java/lang/String"
def TJ0 : u_T := fun k => match k with
  | _ => ("", "", "", false)
def tyJ0 : Nat → FieldType := fun k => match k with
  | _ => .int
theorem nmJ0 : ∀ a, a < 0 → ∀ b, b < 0 → a ≠ b → (TJ0 a).2.1 ≠ (TJ0 b).2.1 := by decide +kernel
theorem tyJ0_ok : ∀ k, k < 0 → parseFieldDescriptor (TJ0 k).2.2.1 = some (tyJ0 k) := by decide +kernel
abbrev cJ0_length_8abf5 : ByteArray := prog_16_method_54_code
def yJ0_length_8abf5 : MethodName := ⟨RJ0, "length", "()I"⟩
abbrev cJ0_indexOf_0f7a4 : ByteArray := prog_16_method_79_code
def yJ0_indexOf_0f7a4 : MethodName := ⟨RJ0, "indexOf", "(I)I"⟩
abbrev cJ0_indexOf_7cf53 : ByteArray := prog_16_method_80_code
def yJ0_indexOf_7cf53 : MethodName := ⟨RJ0, "indexOf", "(II)I"⟩
abbrev cJ0_coder_7d493 : ByteArray := prog_16_method_152_code
def yJ0_coder_7d493 : MethodName := ⟨RJ0, "coder", "()B"⟩
abbrev cJ0_isLatin1_aae02 : ByteArray := prog_16_method_154_code
def yJ0_isLatin1_aae02 : MethodName := ⟨RJ0, "isLatin1", "()Z"⟩
abbrev cJ0_checkBoundsBeginEnd_23922 : ByteArray := prog_16_method_158_code
def yJ0_checkBoundsBeginEnd_23922 : MethodName := ⟨RJ0, "checkBoundsBeginEnd", "(III)V"⟩
def RJ1 : String := "java/lang/StringLatin1"
def TJ1 : u_T := fun k => match k with
  | _ => ("", "", "", false)
def tyJ1 : Nat → FieldType := fun k => match k with
  | _ => .int
theorem nmJ1 : ∀ a, a < 0 → ∀ b, b < 0 → a ≠ b → (TJ1 a).2.1 ≠ (TJ1 b).2.1 := by decide +kernel
theorem tyJ1_ok : ∀ k, k < 0 → parseFieldDescriptor (TJ1 k).2.2.1 = some (tyJ1 k) := by decide +kernel
abbrev cJ1_canEncode_9a6ad : ByteArray := prog_17_method_4_code
def yJ1_canEncode_9a6ad : MethodName := ⟨RJ1, "canEncode", "(I)Z"⟩
abbrev cJ1_indexOf_4cfef : ByteArray := prog_17_method_22_code
def yJ1_indexOf_4cfef : MethodName := ⟨RJ1, "indexOf", "([BIII)I"⟩
abbrev cJ1_indexOfChar_4cfef : ByteArray := prog_17_method_23_code
def yJ1_indexOfChar_4cfef : MethodName := ⟨RJ1, "indexOfChar", "([BIII)I"⟩
def RJ2 : String := "java/lang/StringUTF16"
def TJ2 : u_T := fun k => match k with
  | _ => ("", "", "", false)
def tyJ2 : Nat → FieldType := fun k => match k with
  | _ => .int
theorem nmJ2 : ∀ a, a < 0 → ∀ b, b < 0 → a ≠ b → (TJ2 a).2.1 ≠ (TJ2 b).2.1 := by decide +kernel
theorem tyJ2_ok : ∀ k, k < 0 → parseFieldDescriptor (TJ2 k).2.2.1 = some (tyJ2 k) := by decide +kernel
abbrev cJ2_getChar_3b067 : ByteArray := prog_18_method_5_code
def yJ2_getChar_3b067 : MethodName := ⟨RJ2, "getChar", "([BI)C"⟩
abbrev cJ2_length_9d52b : ByteArray := prog_18_method_6_code
def yJ2_length_9d52b : MethodName := ⟨RJ2, "length", "([B)I"⟩
abbrev cJ2_indexOf_4cfef : ByteArray := prog_18_method_40_code
def yJ2_indexOf_4cfef : MethodName := ⟨RJ2, "indexOf", "([BIII)I"⟩
abbrev cJ2_indexOfChar_4cfef : ByteArray := prog_18_method_47_code
def yJ2_indexOfChar_4cfef : MethodName := ⟨RJ2, "indexOfChar", "([BIII)I"⟩
abbrev cJ2_indexOfCharUnsafe_4cfef : ByteArray := prog_18_method_48_code
def yJ2_indexOfCharUnsafe_4cfef : MethodName := ⟨RJ2, "indexOfCharUnsafe", "([BIII)I"⟩
abbrev cJ2_indexOfSupplementary_4cfef : ByteArray := prog_18_method_49_code
def yJ2_indexOfSupplementary_4cfef : MethodName := ⟨RJ2, "indexOfSupplementary", "([BIII)I"⟩
abbrev cJ2_checkBoundsBeginEnd_d044e : ByteArray := prog_18_method_93_code
def yJ2_checkBoundsBeginEnd_d044e : MethodName := ⟨RJ2, "checkBoundsBeginEnd", "(II[B)V"⟩
def RJ10 : String := "java/lang/System"
def TJ10 : u_T := fun k => match k with
  | _ => ("", "", "", false)
def tyJ10 : Nat → FieldType := fun k => match k with
  | _ => .int
theorem nmJ10 : ∀ a, a < 0 → ∀ b, b < 0 → a ≠ b → (TJ10 a).2.1 ≠ (TJ10 b).2.1 := by decide +kernel
theorem tyJ10_ok : ∀ k, k < 0 → parseFieldDescriptor (TJ10 k).2.2.1 = some (tyJ10 k) := by decide +kernel
def RJ3 : String := "jdk/internal/util/Preconditions"
def TJ3 : u_T := fun k => match k with
  | _ => ("", "", "", false)
def tyJ3 : Nat → FieldType := fun k => match k with
  | _ => .int
theorem nmJ3 : ∀ a, a < 0 → ∀ b, b < 0 → a ≠ b → (TJ3 a).2.1 ≠ (TJ3 b).2.1 := by decide +kernel
theorem tyJ3_ok : ∀ k, k < 0 → parseFieldDescriptor (TJ3 k).2.2.1 = some (tyJ3 k) := by decide +kernel
abbrev cJ3_checkFromToIndex_8c36e : ByteArray := prog_20_method_12_code
def yJ3_checkFromToIndex_8c36e : MethodName := ⟨RJ3, "checkFromToIndex", "(IIILjava/util/function/BiFunction;)I"⟩
def RL : String := "VeilStepsLaw"
abbrev cL_law : ByteArray := code
def yL_law : MethodName := ⟨RL, "law", "([I)Z"⟩
abbrev vwCl : List vw_C := [(RX0, TX0, 4), (RX1, TX1, 6), (RX3, TX3, 4), (RX4, TX4, 2), (RX5, TX5, 2), (RX6, TX6, 2), (RX7, TX7, 5), (RX8, TX8, 8), (RX9, TX9, 8), (RX10, TX10, 20)]
end
section
theorem dX0_init_0 : decode cX0_init 0 = .ok (.aload_n 0, 1) := by decide +kernel
theorem dX0_init_1 : decode cX0_init 1 = .ok (.invokespecial 3, 3) := by decide +kernel
theorem dX0_init_4 : decode cX0_init 4 = .ok (.aload_n 0, 1) := by decide +kernel
theorem dX0_init_5 : decode cX0_init 5 = .ok (.iconst 0, 1) := by decide +kernel
theorem dX0_init_6 : decode cX0_init 6 = .ok (.putfield 9, 3) := by decide +kernel
theorem dX0_init_9 : decode cX0_init 9 = .ok (.aload_n 0, 1) := by decide +kernel
theorem dX0_init_10 : decode cX0_init 10 = .ok (.bipush 100, 2) := by decide +kernel
theorem dX0_init_12 : decode cX0_init 12 = .ok (.putfield 15, 3) := by decide +kernel
theorem dX0_init_15 : decode cX0_init 15 = .ok (.aload_n 0, 1) := by decide +kernel
theorem dX0_init_16 : decode cX0_init 16 = .ok (.iconst 5, 1) := by decide +kernel
theorem dX0_init_17 : decode cX0_init 17 = .ok (.putfield 18, 3) := by decide +kernel
theorem dX0_init_20 : decode cX0_init 20 = .ok (.aload_n 0, 1) := by decide +kernel
theorem dX0_init_21 : decode cX0_init 21 = .ok (.bipush 8, 2) := by decide +kernel
theorem dX0_init_23 : decode cX0_init 23 = .ok (.newarray .int, 2) := by decide +kernel
theorem dX0_init_25 : decode cX0_init 25 = .ok (.putfield 21, 3) := by decide +kernel
theorem dX0_init_28 : decode cX0_init 28 = .ok (.return_, 1) := by decide +kernel
theorem dX0_seenTogether_0 : decode cX0_seenTogether 0 = .ok (.iconst 0, 1) := by decide +kernel
theorem dX0_seenTogether_1 : decode cX0_seenTogether 1 = .ok (.istore_n 1, 1) := by decide +kernel
theorem dX0_seenTogether_2 : decode cX0_seenTogether 2 = .ok (.iconst 0, 1) := by decide +kernel
theorem dX0_seenTogether_3 : decode cX0_seenTogether 3 = .ok (.istore_n 2, 1) := by decide +kernel
theorem dX0_seenTogether_4 : decode cX0_seenTogether 4 = .ok (.iload_n 2, 1) := by decide +kernel
theorem dX0_seenTogether_5 : decode cX0_seenTogether 5 = .ok (.bipush 8, 2) := by decide +kernel
theorem dX0_seenTogether_7 : decode cX0_seenTogether 7 = .ok (.if_icmp .ge 21, 3) := by decide +kernel
theorem dX0_seenTogether_10 : decode cX0_seenTogether 10 = .ok (.iload_n 1, 1) := by decide +kernel
theorem dX0_seenTogether_11 : decode cX0_seenTogether 11 = .ok (.aload_n 0, 1) := by decide +kernel
theorem dX0_seenTogether_12 : decode cX0_seenTogether 12 = .ok (.getfield 21, 3) := by decide +kernel
theorem dX0_seenTogether_15 : decode cX0_seenTogether 15 = .ok (.iload_n 2, 1) := by decide +kernel
theorem dX0_seenTogether_16 : decode cX0_seenTogether 16 = .ok (.iaload, 1) := by decide +kernel
theorem dX0_seenTogether_17 : decode cX0_seenTogether 17 = .ok (.invokestatic 25, 3) := by decide +kernel
theorem dX0_seenTogether_20 : decode cX0_seenTogether 20 = .ok (.iadd, 1) := by decide +kernel
theorem dX0_seenTogether_21 : decode cX0_seenTogether 21 = .ok (.istore_n 1, 1) := by decide +kernel
theorem dX0_seenTogether_22 : decode cX0_seenTogether 22 = .ok (.iinc 2 1, 3) := by decide +kernel
theorem dX0_seenTogether_25 : decode cX0_seenTogether 25 = .ok (.goto (-21), 3) := by decide +kernel
theorem dX0_seenTogether_28 : decode cX0_seenTogether 28 = .ok (.iload_n 1, 1) := by decide +kernel
theorem dX0_seenTogether_29 : decode cX0_seenTogether 29 = .ok (.ireturn, 1) := by decide +kernel
theorem dX0_seenBy_0 : decode cX0_seenBy 0 = .ok (.iconst 0, 1) := by decide +kernel
theorem dX0_seenBy_1 : decode cX0_seenBy 1 = .ok (.istore_n 2, 1) := by decide +kernel
theorem dX0_seenBy_2 : decode cX0_seenBy 2 = .ok (.iconst 0, 1) := by decide +kernel
theorem dX0_seenBy_3 : decode cX0_seenBy 3 = .ok (.istore_n 3, 1) := by decide +kernel
theorem dX0_seenBy_4 : decode cX0_seenBy 4 = .ok (.iload_n 3, 1) := by decide +kernel
theorem dX0_seenBy_5 : decode cX0_seenBy 5 = .ok (.bipush 8, 2) := by decide +kernel
theorem dX0_seenBy_7 : decode cX0_seenBy 7 = .ok (.if_icmp .ge 26, 3) := by decide +kernel
theorem dX0_seenBy_10 : decode cX0_seenBy 10 = .ok (.iload_n 1, 1) := by decide +kernel
theorem dX0_seenBy_11 : decode cX0_seenBy 11 = .ok (.iload_n 3, 1) := by decide +kernel
theorem dX0_seenBy_12 : decode cX0_seenBy 12 = .ok (.invokestatic 31, 3) := by decide +kernel
theorem dX0_seenBy_15 : decode cX0_seenBy 15 = .ok (.ifCond .eq 12, 3) := by decide +kernel
theorem dX0_seenBy_18 : decode cX0_seenBy 18 = .ok (.iload_n 2, 1) := by decide +kernel
theorem dX0_seenBy_19 : decode cX0_seenBy 19 = .ok (.aload_n 0, 1) := by decide +kernel
theorem dX0_seenBy_20 : decode cX0_seenBy 20 = .ok (.getfield 21, 3) := by decide +kernel
theorem dX0_seenBy_23 : decode cX0_seenBy 23 = .ok (.iload_n 3, 1) := by decide +kernel
theorem dX0_seenBy_24 : decode cX0_seenBy 24 = .ok (.iaload, 1) := by decide +kernel
theorem dX0_seenBy_25 : decode cX0_seenBy 25 = .ok (.ior, 1) := by decide +kernel
theorem dX0_seenBy_26 : decode cX0_seenBy 26 = .ok (.istore_n 2, 1) := by decide +kernel
theorem dX0_seenBy_27 : decode cX0_seenBy 27 = .ok (.iinc 3 1, 3) := by decide +kernel
theorem dX0_seenBy_30 : decode cX0_seenBy 30 = .ok (.goto (-26), 3) := by decide +kernel
theorem dX0_seenBy_33 : decode cX0_seenBy 33 = .ok (.iload_n 2, 1) := by decide +kernel
theorem dX0_seenBy_34 : decode cX0_seenBy 34 = .ok (.ireturn, 1) := by decide +kernel
theorem dX0_seersOf_0 : decode cX0_seersOf 0 = .ok (.iconst 0, 1) := by decide +kernel
theorem dX0_seersOf_1 : decode cX0_seersOf 1 = .ok (.istore_n 2, 1) := by decide +kernel
theorem dX0_seersOf_2 : decode cX0_seersOf 2 = .ok (.iconst 0, 1) := by decide +kernel
theorem dX0_seersOf_3 : decode cX0_seersOf 3 = .ok (.istore_n 3, 1) := by decide +kernel
theorem dX0_seersOf_4 : decode cX0_seersOf 4 = .ok (.iload_n 3, 1) := by decide +kernel
theorem dX0_seersOf_5 : decode cX0_seersOf 5 = .ok (.bipush 8, 2) := by decide +kernel
theorem dX0_seersOf_7 : decode cX0_seersOf 7 = .ok (.if_icmp .ge 28, 3) := by decide +kernel
theorem dX0_seersOf_10 : decode cX0_seersOf 10 = .ok (.aload_n 0, 1) := by decide +kernel
theorem dX0_seersOf_11 : decode cX0_seersOf 11 = .ok (.getfield 21, 3) := by decide +kernel
theorem dX0_seersOf_14 : decode cX0_seersOf 14 = .ok (.iload_n 3, 1) := by decide +kernel
theorem dX0_seersOf_15 : decode cX0_seersOf 15 = .ok (.iaload, 1) := by decide +kernel
theorem dX0_seersOf_16 : decode cX0_seersOf 16 = .ok (.iload_n 1, 1) := by decide +kernel
theorem dX0_seersOf_17 : decode cX0_seersOf 17 = .ok (.invokestatic 31, 3) := by decide +kernel
theorem dX0_seersOf_20 : decode cX0_seersOf 20 = .ok (.ifCond .eq 9, 3) := by decide +kernel
theorem dX0_seersOf_23 : decode cX0_seersOf 23 = .ok (.iload_n 2, 1) := by decide +kernel
theorem dX0_seersOf_24 : decode cX0_seersOf 24 = .ok (.iconst 1, 1) := by decide +kernel
theorem dX0_seersOf_25 : decode cX0_seersOf 25 = .ok (.iload_n 3, 1) := by decide +kernel
theorem dX0_seersOf_26 : decode cX0_seersOf 26 = .ok (.ishl, 1) := by decide +kernel
theorem dX0_seersOf_27 : decode cX0_seersOf 27 = .ok (.ior, 1) := by decide +kernel
theorem dX0_seersOf_28 : decode cX0_seersOf 28 = .ok (.istore_n 2, 1) := by decide +kernel
theorem dX0_seersOf_29 : decode cX0_seersOf 29 = .ok (.iinc 3 1, 3) := by decide +kernel
theorem dX0_seersOf_32 : decode cX0_seersOf 32 = .ok (.goto (-28), 3) := by decide +kernel
theorem dX0_seersOf_35 : decode cX0_seersOf 35 = .ok (.iload_n 2, 1) := by decide +kernel
theorem dX0_seersOf_36 : decode cX0_seersOf 36 = .ok (.ireturn, 1) := by decide +kernel
theorem dX0_copy_0 : decode cX0_copy 0 = .ok (.aload_n 0, 1) := by decide +kernel
theorem dX0_copy_1 : decode cX0_copy 1 = .ok (.aload_n 1, 1) := by decide +kernel
theorem dX0_copy_2 : decode cX0_copy 2 = .ok (.getfield 9, 3) := by decide +kernel
theorem dX0_copy_5 : decode cX0_copy 5 = .ok (.putfield 9, 3) := by decide +kernel
theorem dX0_copy_8 : decode cX0_copy 8 = .ok (.aload_n 0, 1) := by decide +kernel
theorem dX0_copy_9 : decode cX0_copy 9 = .ok (.aload_n 1, 1) := by decide +kernel
theorem dX0_copy_10 : decode cX0_copy 10 = .ok (.getfield 15, 3) := by decide +kernel
theorem dX0_copy_13 : decode cX0_copy 13 = .ok (.putfield 15, 3) := by decide +kernel
theorem dX0_copy_16 : decode cX0_copy 16 = .ok (.aload_n 0, 1) := by decide +kernel
theorem dX0_copy_17 : decode cX0_copy 17 = .ok (.aload_n 1, 1) := by decide +kernel
theorem dX0_copy_18 : decode cX0_copy 18 = .ok (.getfield 18, 3) := by decide +kernel
theorem dX0_copy_21 : decode cX0_copy 21 = .ok (.putfield 18, 3) := by decide +kernel
theorem dX0_copy_24 : decode cX0_copy 24 = .ok (.aload_n 1, 1) := by decide +kernel
theorem dX0_copy_25 : decode cX0_copy 25 = .ok (.getfield 21, 3) := by decide +kernel
theorem dX0_copy_28 : decode cX0_copy 28 = .ok (.iconst 0, 1) := by decide +kernel
theorem dX0_copy_29 : decode cX0_copy 29 = .ok (.aload_n 0, 1) := by decide +kernel
theorem dX0_copy_30 : decode cX0_copy 30 = .ok (.getfield 21, 3) := by decide +kernel
theorem dX0_copy_33 : decode cX0_copy 33 = .ok (.iconst 0, 1) := by decide +kernel
theorem dX0_copy_34 : decode cX0_copy 34 = .ok (.bipush 8, 2) := by decide +kernel
theorem dX0_copy_36 : decode cX0_copy 36 = .ok (.invokestatic 35, 3) := by decide +kernel
theorem dX0_copy_39 : decode cX0_copy 39 = .ok (.return_, 1) := by decide +kernel
theorem dX1_init_0 : decode cX1_init 0 = .ok (.aload_n 0, 1) := by decide +kernel
theorem dX1_init_1 : decode cX1_init 1 = .ok (.invokespecial 3, 3) := by decide +kernel
theorem dX1_init_4 : decode cX1_init 4 = .ok (.aload_n 0, 1) := by decide +kernel
theorem dX1_init_5 : decode cX1_init 5 = .ok (.iconst 0, 1) := by decide +kernel
theorem dX1_init_6 : decode cX1_init 6 = .ok (.putfield 9, 3) := by decide +kernel
theorem dX1_init_9 : decode cX1_init 9 = .ok (.aload_n 0, 1) := by decide +kernel
theorem dX1_init_10 : decode cX1_init 10 = .ok (.bipush 8, 2) := by decide +kernel
theorem dX1_init_12 : decode cX1_init 12 = .ok (.newarray .int, 2) := by decide +kernel
theorem dX1_init_14 : decode cX1_init 14 = .ok (.putfield 15, 3) := by decide +kernel
theorem dX1_init_17 : decode cX1_init 17 = .ok (.aload_n 0, 1) := by decide +kernel
theorem dX1_init_18 : decode cX1_init 18 = .ok (.bipush 8, 2) := by decide +kernel
theorem dX1_init_20 : decode cX1_init 20 = .ok (.newarray .int, 2) := by decide +kernel
theorem dX1_init_22 : decode cX1_init 22 = .ok (.putfield 19, 3) := by decide +kernel
theorem dX1_init_25 : decode cX1_init 25 = .ok (.aload_n 0, 1) := by decide +kernel
theorem dX1_init_26 : decode cX1_init 26 = .ok (.bipush 8, 2) := by decide +kernel
theorem dX1_init_28 : decode cX1_init 28 = .ok (.newarray .int, 2) := by decide +kernel
theorem dX1_init_30 : decode cX1_init 30 = .ok (.putfield 22, 3) := by decide +kernel
theorem dX1_init_33 : decode cX1_init 33 = .ok (.aload_n 0, 1) := by decide +kernel
theorem dX1_init_34 : decode cX1_init 34 = .ok (.bipush 8, 2) := by decide +kernel
theorem dX1_init_36 : decode cX1_init 36 = .ok (.newarray .int, 2) := by decide +kernel
theorem dX1_init_38 : decode cX1_init 38 = .ok (.putfield 25, 3) := by decide +kernel
theorem dX1_init_41 : decode cX1_init 41 = .ok (.aload_n 0, 1) := by decide +kernel
theorem dX1_init_42 : decode cX1_init 42 = .ok (.bipush 64, 2) := by decide +kernel
theorem dX1_init_44 : decode cX1_init 44 = .ok (.newarray .int, 2) := by decide +kernel
theorem dX1_init_46 : decode cX1_init 46 = .ok (.putfield 28, 3) := by decide +kernel
theorem dX1_init_49 : decode cX1_init 49 = .ok (.return_, 1) := by decide +kernel
theorem dX1_has_0 : decode cX1_has 0 = .ok (.iload_n 1, 1) := by decide +kernel
theorem dX1_has_1 : decode cX1_has 1 = .ok (.ifCond .lt 15, 3) := by decide +kernel
theorem dX1_has_4 : decode cX1_has 4 = .ok (.iload_n 1, 1) := by decide +kernel
theorem dX1_has_5 : decode cX1_has 5 = .ok (.aload_n 0, 1) := by decide +kernel
theorem dX1_has_6 : decode cX1_has 6 = .ok (.getfield 9, 3) := by decide +kernel
theorem dX1_has_9 : decode cX1_has 9 = .ok (.if_icmp .ge 7, 3) := by decide +kernel
theorem dX1_has_12 : decode cX1_has 12 = .ok (.iconst 1, 1) := by decide +kernel
theorem dX1_has_13 : decode cX1_has 13 = .ok (.goto 4, 3) := by decide +kernel
theorem dX1_has_16 : decode cX1_has 16 = .ok (.iconst 0, 1) := by decide +kernel
theorem dX1_has_17 : decode cX1_has 17 = .ok (.ireturn, 1) := by decide +kernel
theorem dX1_isSet_0 : decode cX1_isSet 0 = .ok (.iload_n 1, 1) := by decide +kernel
theorem dX1_isSet_1 : decode cX1_isSet 1 = .ok (.ifCond .lt 17, 3) := by decide +kernel
theorem dX1_isSet_4 : decode cX1_isSet 4 = .ok (.iload_n 1, 1) := by decide +kernel
theorem dX1_isSet_5 : decode cX1_isSet 5 = .ok (.iconst 1, 1) := by decide +kernel
theorem dX1_isSet_6 : decode cX1_isSet 6 = .ok (.aload_n 0, 1) := by decide +kernel
theorem dX1_isSet_7 : decode cX1_isSet 7 = .ok (.getfield 9, 3) := by decide +kernel
theorem dX1_isSet_10 : decode cX1_isSet 10 = .ok (.ishl, 1) := by decide +kernel
theorem dX1_isSet_11 : decode cX1_isSet 11 = .ok (.if_icmp .ge 7, 3) := by decide +kernel
theorem dX1_isSet_14 : decode cX1_isSet 14 = .ok (.iconst 1, 1) := by decide +kernel
theorem dX1_isSet_15 : decode cX1_isSet 15 = .ok (.goto 4, 3) := by decide +kernel
theorem dX1_isSet_18 : decode cX1_isSet 18 = .ok (.iconst 0, 1) := by decide +kernel
theorem dX1_isSet_19 : decode cX1_isSet 19 = .ok (.ireturn, 1) := by decide +kernel
theorem dX1_isFree_0 : decode cX1_isFree 0 = .ok (.aload_n 0, 1) := by decide +kernel
theorem dX1_isFree_1 : decode cX1_isFree 1 = .ok (.getfield 25, 3) := by decide +kernel
theorem dX1_isFree_4 : decode cX1_isFree 4 = .ok (.iload_n 1, 1) := by decide +kernel
theorem dX1_isFree_5 : decode cX1_isFree 5 = .ok (.iaload, 1) := by decide +kernel
theorem dX1_isFree_6 : decode cX1_isFree 6 = .ok (.ifCond .ge 7, 3) := by decide +kernel
theorem dX1_isFree_9 : decode cX1_isFree 9 = .ok (.iconst 1, 1) := by decide +kernel
theorem dX1_isFree_10 : decode cX1_isFree 10 = .ok (.goto 4, 3) := by decide +kernel
theorem dX1_isFree_13 : decode cX1_isFree 13 = .ok (.iconst 0, 1) := by decide +kernel
theorem dX1_isFree_14 : decode cX1_isFree 14 = .ok (.ireturn, 1) := by decide +kernel
theorem dX1_add_0 : decode cX1_add 0 = .ok (.aload_n 0, 1) := by decide +kernel
theorem dX1_add_1 : decode cX1_add 1 = .ok (.getfield 9, 3) := by decide +kernel
theorem dX1_add_4 : decode cX1_add 4 = .ok (.istore 4, 2) := by decide +kernel
theorem dX1_add_6 : decode cX1_add 6 = .ok (.aload_n 0, 1) := by decide +kernel
theorem dX1_add_7 : decode cX1_add 7 = .ok (.getfield 15, 3) := by decide +kernel
theorem dX1_add_10 : decode cX1_add 10 = .ok (.iload 4, 2) := by decide +kernel
theorem dX1_add_12 : decode cX1_add 12 = .ok (.iload_n 1, 1) := by decide +kernel
theorem dX1_add_13 : decode cX1_add 13 = .ok (.iastore, 1) := by decide +kernel
theorem dX1_add_14 : decode cX1_add 14 = .ok (.aload_n 0, 1) := by decide +kernel
theorem dX1_add_15 : decode cX1_add 15 = .ok (.getfield 19, 3) := by decide +kernel
theorem dX1_add_18 : decode cX1_add 18 = .ok (.iload 4, 2) := by decide +kernel
theorem dX1_add_20 : decode cX1_add 20 = .ok (.iload_n 2, 1) := by decide +kernel
theorem dX1_add_21 : decode cX1_add 21 = .ok (.iastore, 1) := by decide +kernel
theorem dX1_add_22 : decode cX1_add 22 = .ok (.aload_n 0, 1) := by decide +kernel
theorem dX1_add_23 : decode cX1_add 23 = .ok (.getfield 22, 3) := by decide +kernel
theorem dX1_add_26 : decode cX1_add 26 = .ok (.iload 4, 2) := by decide +kernel
theorem dX1_add_28 : decode cX1_add 28 = .ok (.iload_n 3, 1) := by decide +kernel
theorem dX1_add_29 : decode cX1_add 29 = .ok (.iastore, 1) := by decide +kernel
theorem dX1_add_30 : decode cX1_add 30 = .ok (.aload_n 0, 1) := by decide +kernel
theorem dX1_add_31 : decode cX1_add 31 = .ok (.getfield 25, 3) := by decide +kernel
theorem dX1_add_34 : decode cX1_add 34 = .ok (.iload 4, 2) := by decide +kernel
theorem dX1_add_36 : decode cX1_add 36 = .ok (.iconst (-1), 1) := by decide +kernel
theorem dX1_add_37 : decode cX1_add 37 = .ok (.iastore, 1) := by decide +kernel
theorem dX1_add_38 : decode cX1_add 38 = .ok (.aload_n 0, 1) := by decide +kernel
theorem dX1_add_39 : decode cX1_add 39 = .ok (.dup, 1) := by decide +kernel
theorem dX1_add_40 : decode cX1_add 40 = .ok (.getfield 9, 3) := by decide +kernel
theorem dX1_add_43 : decode cX1_add 43 = .ok (.iconst 1, 1) := by decide +kernel
theorem dX1_add_44 : decode cX1_add 44 = .ok (.iadd, 1) := by decide +kernel
theorem dX1_add_45 : decode cX1_add 45 = .ok (.putfield 9, 3) := by decide +kernel
theorem dX1_add_48 : decode cX1_add 48 = .ok (.aload_n 0, 1) := by decide +kernel
theorem dX1_add_49 : decode cX1_add 49 = .ok (.invokevirtual 31, 3) := by decide +kernel
theorem dX1_add_52 : decode cX1_add 52 = .ok (.iload 4, 2) := by decide +kernel
theorem dX1_add_54 : decode cX1_add 54 = .ok (.ireturn, 1) := by decide +kernel
theorem dX1_giveParent_0 : decode cX1_giveParent 0 = .ok (.aload_n 0, 1) := by decide +kernel
theorem dX1_giveParent_1 : decode cX1_giveParent 1 = .ok (.getfield 22, 3) := by decide +kernel
theorem dX1_giveParent_4 : decode cX1_giveParent 4 = .ok (.iload_n 1, 1) := by decide +kernel
theorem dX1_giveParent_5 : decode cX1_giveParent 5 = .ok (.iload_n 2, 1) := by decide +kernel
theorem dX1_giveParent_6 : decode cX1_giveParent 6 = .ok (.iastore, 1) := by decide +kernel
theorem dX1_giveParent_7 : decode cX1_giveParent 7 = .ok (.aload_n 0, 1) := by decide +kernel
theorem dX1_giveParent_8 : decode cX1_giveParent 8 = .ok (.invokevirtual 31, 3) := by decide +kernel
theorem dX1_giveParent_11 : decode cX1_giveParent 11 = .ok (.return_, 1) := by decide +kernel
theorem dX1_join_0 : decode cX1_join 0 = .ok (.aload_n 0, 1) := by decide +kernel
theorem dX1_join_1 : decode cX1_join 1 = .ok (.getfield 25, 3) := by decide +kernel
theorem dX1_join_4 : decode cX1_join 4 = .ok (.iload_n 1, 1) := by decide +kernel
theorem dX1_join_5 : decode cX1_join 5 = .ok (.iload_n 2, 1) := by decide +kernel
theorem dX1_join_6 : decode cX1_join 6 = .ok (.iastore, 1) := by decide +kernel
theorem dX1_join_7 : decode cX1_join 7 = .ok (.aload_n 0, 1) := by decide +kernel
theorem dX1_join_8 : decode cX1_join 8 = .ok (.getfield 25, 3) := by decide +kernel
theorem dX1_join_11 : decode cX1_join 11 = .ok (.iload_n 2, 1) := by decide +kernel
theorem dX1_join_12 : decode cX1_join 12 = .ok (.iload_n 1, 1) := by decide +kernel
theorem dX1_join_13 : decode cX1_join 13 = .ok (.iastore, 1) := by decide +kernel
theorem dX1_join_14 : decode cX1_join 14 = .ok (.aload_n 0, 1) := by decide +kernel
theorem dX1_join_15 : decode cX1_join 15 = .ok (.invokevirtual 31, 3) := by decide +kernel
theorem dX1_join_18 : decode cX1_join 18 = .ok (.return_, 1) := by decide +kernel
theorem dX1_part_0 : decode cX1_part 0 = .ok (.aload_n 0, 1) := by decide +kernel
theorem dX1_part_1 : decode cX1_part 1 = .ok (.getfield 25, 3) := by decide +kernel
theorem dX1_part_4 : decode cX1_part 4 = .ok (.iload_n 1, 1) := by decide +kernel
theorem dX1_part_5 : decode cX1_part 5 = .ok (.iconst (-1), 1) := by decide +kernel
theorem dX1_part_6 : decode cX1_part 6 = .ok (.iastore, 1) := by decide +kernel
theorem dX1_part_7 : decode cX1_part 7 = .ok (.aload_n 0, 1) := by decide +kernel
theorem dX1_part_8 : decode cX1_part 8 = .ok (.getfield 25, 3) := by decide +kernel
theorem dX1_part_11 : decode cX1_part 11 = .ok (.iload_n 2, 1) := by decide +kernel
theorem dX1_part_12 : decode cX1_part 12 = .ok (.iconst (-1), 1) := by decide +kernel
theorem dX1_part_13 : decode cX1_part 13 = .ok (.iastore, 1) := by decide +kernel
theorem dX1_part_14 : decode cX1_part 14 = .ok (.aload_n 0, 1) := by decide +kernel
theorem dX1_part_15 : decode cX1_part 15 = .ok (.invokevirtual 31, 3) := by decide +kernel
theorem dX1_part_18 : decode cX1_part 18 = .ok (.return_, 1) := by decide +kernel
theorem dX1_between_0 : decode cX1_between 0 = .ok (.aload_n 0, 1) := by decide +kernel
theorem dX1_between_1 : decode cX1_between 1 = .ok (.getfield 28, 3) := by decide +kernel
theorem dX1_between_4 : decode cX1_between 4 = .ok (.iload_n 1, 1) := by decide +kernel
theorem dX1_between_5 : decode cX1_between 5 = .ok (.bipush 8, 2) := by decide +kernel
theorem dX1_between_7 : decode cX1_between 7 = .ok (.imul, 1) := by decide +kernel
theorem dX1_between_8 : decode cX1_between 8 = .ok (.iload_n 2, 1) := by decide +kernel
theorem dX1_between_9 : decode cX1_between 9 = .ok (.iadd, 1) := by decide +kernel
theorem dX1_between_10 : decode cX1_between 10 = .ok (.iaload, 1) := by decide +kernel
theorem dX1_between_11 : decode cX1_between 11 = .ok (.ireturn, 1) := by decide +kernel
theorem dX1_nearTo_0 : decode cX1_nearTo 0 = .ok (.iconst 0, 1) := by decide +kernel
theorem dX1_nearTo_1 : decode cX1_nearTo 1 = .ok (.istore_n 2, 1) := by decide +kernel
theorem dX1_nearTo_2 : decode cX1_nearTo 2 = .ok (.iconst 0, 1) := by decide +kernel
theorem dX1_nearTo_3 : decode cX1_nearTo 3 = .ok (.istore_n 3, 1) := by decide +kernel
theorem dX1_nearTo_4 : decode cX1_nearTo 4 = .ok (.iload_n 3, 1) := by decide +kernel
theorem dX1_nearTo_5 : decode cX1_nearTo 5 = .ok (.aload_n 0, 1) := by decide +kernel
theorem dX1_nearTo_6 : decode cX1_nearTo 6 = .ok (.getfield 9, 3) := by decide +kernel
theorem dX1_nearTo_9 : decode cX1_nearTo 9 = .ok (.if_icmp .ge 22, 3) := by decide +kernel
theorem dX1_nearTo_12 : decode cX1_nearTo 12 = .ok (.aload_n 0, 1) := by decide +kernel
theorem dX1_nearTo_13 : decode cX1_nearTo 13 = .ok (.iload_n 1, 1) := by decide +kernel
theorem dX1_nearTo_14 : decode cX1_nearTo 14 = .ok (.iload_n 3, 1) := by decide +kernel
theorem dX1_nearTo_15 : decode cX1_nearTo 15 = .ok (.invokevirtual 34, 3) := by decide +kernel
theorem dX1_nearTo_18 : decode cX1_nearTo 18 = .ok (.iconst 1, 1) := by decide +kernel
theorem dX1_nearTo_19 : decode cX1_nearTo 19 = .ok (.if_icmp .ne 6, 3) := by decide +kernel
theorem dX1_nearTo_22 : decode cX1_nearTo 22 = .ok (.iinc 2 1, 3) := by decide +kernel
theorem dX1_nearTo_25 : decode cX1_nearTo 25 = .ok (.iinc 3 1, 3) := by decide +kernel
theorem dX1_nearTo_28 : decode cX1_nearTo 28 = .ok (.goto (-24), 3) := by decide +kernel
theorem dX1_nearTo_31 : decode cX1_nearTo 31 = .ok (.iload_n 2, 1) := by decide +kernel
theorem dX1_nearTo_32 : decode cX1_nearTo 32 = .ok (.ireturn, 1) := by decide +kernel
theorem dX1_measure_0 : decode cX1_measure 0 = .ok (.iconst 0, 1) := by decide +kernel
theorem dX1_measure_1 : decode cX1_measure 1 = .ok (.istore_n 1, 1) := by decide +kernel
theorem dX1_measure_2 : decode cX1_measure 2 = .ok (.iload_n 1, 1) := by decide +kernel
theorem dX1_measure_3 : decode cX1_measure 3 = .ok (.aload_n 0, 1) := by decide +kernel
theorem dX1_measure_4 : decode cX1_measure 4 = .ok (.getfield 9, 3) := by decide +kernel
theorem dX1_measure_7 : decode cX1_measure 7 = .ok (.if_icmp .ge 47, 3) := by decide +kernel
theorem dX1_measure_10 : decode cX1_measure 10 = .ok (.iconst 0, 1) := by decide +kernel
theorem dX1_measure_11 : decode cX1_measure 11 = .ok (.istore_n 2, 1) := by decide +kernel
theorem dX1_measure_12 : decode cX1_measure 12 = .ok (.iload_n 2, 1) := by decide +kernel
theorem dX1_measure_13 : decode cX1_measure 13 = .ok (.aload_n 0, 1) := by decide +kernel
theorem dX1_measure_14 : decode cX1_measure 14 = .ok (.getfield 9, 3) := by decide +kernel
theorem dX1_measure_17 : decode cX1_measure 17 = .ok (.if_icmp .ge 31, 3) := by decide +kernel
theorem dX1_measure_20 : decode cX1_measure 20 = .ok (.aload_n 0, 1) := by decide +kernel
theorem dX1_measure_21 : decode cX1_measure 21 = .ok (.getfield 28, 3) := by decide +kernel
theorem dX1_measure_24 : decode cX1_measure 24 = .ok (.iload_n 1, 1) := by decide +kernel
theorem dX1_measure_25 : decode cX1_measure 25 = .ok (.bipush 8, 2) := by decide +kernel
theorem dX1_measure_27 : decode cX1_measure 27 = .ok (.imul, 1) := by decide +kernel
theorem dX1_measure_28 : decode cX1_measure 28 = .ok (.iload_n 2, 1) := by decide +kernel
theorem dX1_measure_29 : decode cX1_measure 29 = .ok (.iadd, 1) := by decide +kernel
theorem dX1_measure_30 : decode cX1_measure 30 = .ok (.iload_n 1, 1) := by decide +kernel
theorem dX1_measure_31 : decode cX1_measure 31 = .ok (.iload_n 2, 1) := by decide +kernel
theorem dX1_measure_32 : decode cX1_measure 32 = .ok (.if_icmp .ne 7, 3) := by decide +kernel
theorem dX1_measure_35 : decode cX1_measure 35 = .ok (.iconst 0, 1) := by decide +kernel
theorem dX1_measure_36 : decode cX1_measure 36 = .ok (.goto 5, 3) := by decide +kernel
theorem dX1_measure_39 : decode cX1_measure 39 = .ok (.bipush 40, 2) := by decide +kernel
theorem dX1_measure_41 : decode cX1_measure 41 = .ok (.iastore, 1) := by decide +kernel
theorem dX1_measure_42 : decode cX1_measure 42 = .ok (.iinc 2 1, 3) := by decide +kernel
theorem dX1_measure_45 : decode cX1_measure 45 = .ok (.goto (-33), 3) := by decide +kernel
theorem dX1_measure_48 : decode cX1_measure 48 = .ok (.iinc 1 1, 3) := by decide +kernel
theorem dX1_measure_51 : decode cX1_measure 51 = .ok (.goto (-49), 3) := by decide +kernel
theorem dX1_measure_54 : decode cX1_measure 54 = .ok (.iconst 0, 1) := by decide +kernel
theorem dX1_measure_55 : decode cX1_measure 55 = .ok (.istore_n 1, 1) := by decide +kernel
theorem dX1_measure_56 : decode cX1_measure 56 = .ok (.iload_n 1, 1) := by decide +kernel
theorem dX1_measure_57 : decode cX1_measure 57 = .ok (.aload_n 0, 1) := by decide +kernel
theorem dX1_measure_58 : decode cX1_measure 58 = .ok (.getfield 9, 3) := by decide +kernel
theorem dX1_measure_61 : decode cX1_measure 61 = .ok (.if_icmp .ge 31, 3) := by decide +kernel
theorem dX1_measure_64 : decode cX1_measure 64 = .ok (.aload_n 0, 1) := by decide +kernel
theorem dX1_measure_65 : decode cX1_measure 65 = .ok (.iload_n 1, 1) := by decide +kernel
theorem dX1_measure_66 : decode cX1_measure 66 = .ok (.aload_n 0, 1) := by decide +kernel
theorem dX1_measure_67 : decode cX1_measure 67 = .ok (.getfield 22, 3) := by decide +kernel
theorem dX1_measure_70 : decode cX1_measure 70 = .ok (.iload_n 1, 1) := by decide +kernel
theorem dX1_measure_71 : decode cX1_measure 71 = .ok (.iaload, 1) := by decide +kernel
theorem dX1_measure_72 : decode cX1_measure 72 = .ok (.invokevirtual 38, 3) := by decide +kernel
theorem dX1_measure_75 : decode cX1_measure 75 = .ok (.aload_n 0, 1) := by decide +kernel
theorem dX1_measure_76 : decode cX1_measure 76 = .ok (.iload_n 1, 1) := by decide +kernel
theorem dX1_measure_77 : decode cX1_measure 77 = .ok (.aload_n 0, 1) := by decide +kernel
theorem dX1_measure_78 : decode cX1_measure 78 = .ok (.getfield 25, 3) := by decide +kernel
theorem dX1_measure_81 : decode cX1_measure 81 = .ok (.iload_n 1, 1) := by decide +kernel
theorem dX1_measure_82 : decode cX1_measure 82 = .ok (.iaload, 1) := by decide +kernel
theorem dX1_measure_83 : decode cX1_measure 83 = .ok (.invokevirtual 38, 3) := by decide +kernel
theorem dX1_measure_86 : decode cX1_measure 86 = .ok (.iinc 1 1, 3) := by decide +kernel
theorem dX1_measure_89 : decode cX1_measure 89 = .ok (.goto (-33), 3) := by decide +kernel
theorem dX1_measure_92 : decode cX1_measure 92 = .ok (.iconst 0, 1) := by decide +kernel
theorem dX1_measure_93 : decode cX1_measure 93 = .ok (.istore_n 1, 1) := by decide +kernel
theorem dX1_measure_94 : decode cX1_measure 94 = .ok (.iload_n 1, 1) := by decide +kernel
theorem dX1_measure_95 : decode cX1_measure 95 = .ok (.aload_n 0, 1) := by decide +kernel
theorem dX1_measure_96 : decode cX1_measure 96 = .ok (.getfield 9, 3) := by decide +kernel
theorem dX1_measure_99 : decode cX1_measure 99 = .ok (.if_icmp .ge 31, 3) := by decide +kernel
theorem dX1_measure_102 : decode cX1_measure 102 = .ok (.iconst 0, 1) := by decide +kernel
theorem dX1_measure_103 : decode cX1_measure 103 = .ok (.istore_n 2, 1) := by decide +kernel
theorem dX1_measure_104 : decode cX1_measure 104 = .ok (.iload_n 2, 1) := by decide +kernel
theorem dX1_measure_105 : decode cX1_measure 105 = .ok (.aload_n 0, 1) := by decide +kernel
theorem dX1_measure_106 : decode cX1_measure 106 = .ok (.getfield 9, 3) := by decide +kernel
theorem dX1_measure_109 : decode cX1_measure 109 = .ok (.if_icmp .ge 15, 3) := by decide +kernel
theorem dX1_measure_112 : decode cX1_measure 112 = .ok (.aload_n 0, 1) := by decide +kernel
theorem dX1_measure_113 : decode cX1_measure 113 = .ok (.iload_n 1, 1) := by decide +kernel
theorem dX1_measure_114 : decode cX1_measure 114 = .ok (.iload_n 2, 1) := by decide +kernel
theorem dX1_measure_115 : decode cX1_measure 115 = .ok (.invokevirtual 42, 3) := by decide +kernel
theorem dX1_measure_118 : decode cX1_measure 118 = .ok (.iinc 2 1, 3) := by decide +kernel
theorem dX1_measure_121 : decode cX1_measure 121 = .ok (.goto (-17), 3) := by decide +kernel
theorem dX1_measure_124 : decode cX1_measure 124 = .ok (.iinc 1 1, 3) := by decide +kernel
theorem dX1_measure_127 : decode cX1_measure 127 = .ok (.goto (-33), 3) := by decide +kernel
theorem dX1_measure_130 : decode cX1_measure 130 = .ok (.return_, 1) := by decide +kernel
theorem dX1_link_0 : decode cX1_link 0 = .ok (.aload_n 0, 1) := by decide +kernel
theorem dX1_link_1 : decode cX1_link 1 = .ok (.iload_n 2, 1) := by decide +kernel
theorem dX1_link_2 : decode cX1_link 2 = .ok (.invokevirtual 45, 3) := by decide +kernel
theorem dX1_link_5 : decode cX1_link 5 = .ok (.ifCond .eq 27, 3) := by decide +kernel
theorem dX1_link_8 : decode cX1_link 8 = .ok (.aload_n 0, 1) := by decide +kernel
theorem dX1_link_9 : decode cX1_link 9 = .ok (.getfield 28, 3) := by decide +kernel
theorem dX1_link_12 : decode cX1_link 12 = .ok (.iload_n 1, 1) := by decide +kernel
theorem dX1_link_13 : decode cX1_link 13 = .ok (.bipush 8, 2) := by decide +kernel
theorem dX1_link_15 : decode cX1_link 15 = .ok (.imul, 1) := by decide +kernel
theorem dX1_link_16 : decode cX1_link 16 = .ok (.iload_n 2, 1) := by decide +kernel
theorem dX1_link_17 : decode cX1_link 17 = .ok (.iadd, 1) := by decide +kernel
theorem dX1_link_18 : decode cX1_link 18 = .ok (.iconst 1, 1) := by decide +kernel
theorem dX1_link_19 : decode cX1_link 19 = .ok (.iastore, 1) := by decide +kernel
theorem dX1_link_20 : decode cX1_link 20 = .ok (.aload_n 0, 1) := by decide +kernel
theorem dX1_link_21 : decode cX1_link 21 = .ok (.getfield 28, 3) := by decide +kernel
theorem dX1_link_24 : decode cX1_link 24 = .ok (.iload_n 2, 1) := by decide +kernel
theorem dX1_link_25 : decode cX1_link 25 = .ok (.bipush 8, 2) := by decide +kernel
theorem dX1_link_27 : decode cX1_link 27 = .ok (.imul, 1) := by decide +kernel
theorem dX1_link_28 : decode cX1_link 28 = .ok (.iload_n 1, 1) := by decide +kernel
theorem dX1_link_29 : decode cX1_link 29 = .ok (.iadd, 1) := by decide +kernel
theorem dX1_link_30 : decode cX1_link 30 = .ok (.iconst 1, 1) := by decide +kernel
theorem dX1_link_31 : decode cX1_link 31 = .ok (.iastore, 1) := by decide +kernel
theorem dX1_link_32 : decode cX1_link 32 = .ok (.return_, 1) := by decide +kernel
theorem dX1_shortenBy_0 : decode cX1_shortenBy 0 = .ok (.iconst 0, 1) := by decide +kernel
theorem dX1_shortenBy_1 : decode cX1_shortenBy 1 = .ok (.istore_n 3, 1) := by decide +kernel
theorem dX1_shortenBy_2 : decode cX1_shortenBy 2 = .ok (.iload_n 3, 1) := by decide +kernel
theorem dX1_shortenBy_3 : decode cX1_shortenBy 3 = .ok (.aload_n 0, 1) := by decide +kernel
theorem dX1_shortenBy_4 : decode cX1_shortenBy 4 = .ok (.getfield 9, 3) := by decide +kernel
theorem dX1_shortenBy_7 : decode cX1_shortenBy 7 = .ok (.if_icmp .ge 51, 3) := by decide +kernel
theorem dX1_shortenBy_10 : decode cX1_shortenBy 10 = .ok (.aload_n 0, 1) := by decide +kernel
theorem dX1_shortenBy_11 : decode cX1_shortenBy 11 = .ok (.iload_n 2, 1) := by decide +kernel
theorem dX1_shortenBy_12 : decode cX1_shortenBy 12 = .ok (.iload_n 1, 1) := by decide +kernel
theorem dX1_shortenBy_13 : decode cX1_shortenBy 13 = .ok (.invokevirtual 34, 3) := by decide +kernel
theorem dX1_shortenBy_16 : decode cX1_shortenBy 16 = .ok (.aload_n 0, 1) := by decide +kernel
theorem dX1_shortenBy_17 : decode cX1_shortenBy 17 = .ok (.iload_n 1, 1) := by decide +kernel
theorem dX1_shortenBy_18 : decode cX1_shortenBy 18 = .ok (.iload_n 3, 1) := by decide +kernel
theorem dX1_shortenBy_19 : decode cX1_shortenBy 19 = .ok (.invokevirtual 34, 3) := by decide +kernel
theorem dX1_shortenBy_22 : decode cX1_shortenBy 22 = .ok (.iadd, 1) := by decide +kernel
theorem dX1_shortenBy_23 : decode cX1_shortenBy 23 = .ok (.istore 4, 2) := by decide +kernel
theorem dX1_shortenBy_25 : decode cX1_shortenBy 25 = .ok (.iload_n 2, 1) := by decide +kernel
theorem dX1_shortenBy_26 : decode cX1_shortenBy 26 = .ok (.bipush 8, 2) := by decide +kernel
theorem dX1_shortenBy_28 : decode cX1_shortenBy 28 = .ok (.imul, 1) := by decide +kernel
theorem dX1_shortenBy_29 : decode cX1_shortenBy 29 = .ok (.iload_n 3, 1) := by decide +kernel
theorem dX1_shortenBy_30 : decode cX1_shortenBy 30 = .ok (.iadd, 1) := by decide +kernel
theorem dX1_shortenBy_31 : decode cX1_shortenBy 31 = .ok (.istore 5, 2) := by decide +kernel
theorem dX1_shortenBy_33 : decode cX1_shortenBy 33 = .ok (.aload_n 0, 1) := by decide +kernel
theorem dX1_shortenBy_34 : decode cX1_shortenBy 34 = .ok (.getfield 28, 3) := by decide +kernel
theorem dX1_shortenBy_37 : decode cX1_shortenBy 37 = .ok (.iload 5, 2) := by decide +kernel
theorem dX1_shortenBy_39 : decode cX1_shortenBy 39 = .ok (.aload_n 0, 1) := by decide +kernel
theorem dX1_shortenBy_40 : decode cX1_shortenBy 40 = .ok (.getfield 28, 3) := by decide +kernel
theorem dX1_shortenBy_43 : decode cX1_shortenBy 43 = .ok (.iload 5, 2) := by decide +kernel
theorem dX1_shortenBy_45 : decode cX1_shortenBy 45 = .ok (.iaload, 1) := by decide +kernel
theorem dX1_shortenBy_46 : decode cX1_shortenBy 46 = .ok (.iload 4, 2) := by decide +kernel
theorem dX1_shortenBy_48 : decode cX1_shortenBy 48 = .ok (.invokestatic 49, 3) := by decide +kernel
theorem dX1_shortenBy_51 : decode cX1_shortenBy 51 = .ok (.iastore, 1) := by decide +kernel
theorem dX1_shortenBy_52 : decode cX1_shortenBy 52 = .ok (.iinc 3 1, 3) := by decide +kernel
theorem dX1_shortenBy_55 : decode cX1_shortenBy 55 = .ok (.goto (-53), 3) := by decide +kernel
theorem dX1_shortenBy_58 : decode cX1_shortenBy 58 = .ok (.return_, 1) := by decide +kernel
theorem dX1_bestMatch_0 : decode cX1_bestMatch 0 = .ok (.aload_n 0, 1) := by decide +kernel
theorem dX1_bestMatch_1 : decode cX1_bestMatch 1 = .ok (.iload_n 1, 1) := by decide +kernel
theorem dX1_bestMatch_2 : decode cX1_bestMatch 2 = .ok (.iload_n 2, 1) := by decide +kernel
theorem dX1_bestMatch_3 : decode cX1_bestMatch 3 = .ok (.invokevirtual 34, 3) := by decide +kernel
theorem dX1_bestMatch_6 : decode cX1_bestMatch 6 = .ok (.bipush 100, 2) := by decide +kernel
theorem dX1_bestMatch_8 : decode cX1_bestMatch 8 = .ok (.imul, 1) := by decide +kernel
theorem dX1_bestMatch_9 : decode cX1_bestMatch 9 = .ok (.istore_n 3, 1) := by decide +kernel
theorem dX1_bestMatch_10 : decode cX1_bestMatch 10 = .ok (.iload_n 3, 1) := by decide +kernel
theorem dX1_bestMatch_11 : decode cX1_bestMatch 11 = .ok (.istore 4, 2) := by decide +kernel
theorem dX1_bestMatch_13 : decode cX1_bestMatch 13 = .ok (.iconst 0, 1) := by decide +kernel
theorem dX1_bestMatch_14 : decode cX1_bestMatch 14 = .ok (.istore 5, 2) := by decide +kernel
theorem dX1_bestMatch_16 : decode cX1_bestMatch 16 = .ok (.iload 5, 2) := by decide +kernel
theorem dX1_bestMatch_18 : decode cX1_bestMatch 18 = .ok (.aload_n 0, 1) := by decide +kernel
theorem dX1_bestMatch_19 : decode cX1_bestMatch 19 = .ok (.getfield 9, 3) := by decide +kernel
theorem dX1_bestMatch_22 : decode cX1_bestMatch 22 = .ok (.if_icmp .ge 77, 3) := by decide +kernel
theorem dX1_bestMatch_25 : decode cX1_bestMatch 25 = .ok (.iload 5, 2) := by decide +kernel
theorem dX1_bestMatch_27 : decode cX1_bestMatch 27 = .ok (.iconst 1, 1) := by decide +kernel
theorem dX1_bestMatch_28 : decode cX1_bestMatch 28 = .ok (.iadd, 1) := by decide +kernel
theorem dX1_bestMatch_29 : decode cX1_bestMatch 29 = .ok (.istore 6, 2) := by decide +kernel
theorem dX1_bestMatch_31 : decode cX1_bestMatch 31 = .ok (.iload 6, 2) := by decide +kernel
theorem dX1_bestMatch_33 : decode cX1_bestMatch 33 = .ok (.aload_n 0, 1) := by decide +kernel
theorem dX1_bestMatch_34 : decode cX1_bestMatch 34 = .ok (.getfield 9, 3) := by decide +kernel
theorem dX1_bestMatch_37 : decode cX1_bestMatch 37 = .ok (.if_icmp .ge 56, 3) := by decide +kernel
theorem dX1_bestMatch_40 : decode cX1_bestMatch 40 = .ok (.aload_n 0, 1) := by decide +kernel
theorem dX1_bestMatch_41 : decode cX1_bestMatch 41 = .ok (.iload 5, 2) := by decide +kernel
theorem dX1_bestMatch_43 : decode cX1_bestMatch 43 = .ok (.invokevirtual 54, 3) := by decide +kernel
theorem dX1_bestMatch_46 : decode cX1_bestMatch 46 = .ok (.ifCond .eq 41, 3) := by decide +kernel
theorem dX1_bestMatch_49 : decode cX1_bestMatch 49 = .ok (.aload_n 0, 1) := by decide +kernel
theorem dX1_bestMatch_50 : decode cX1_bestMatch 50 = .ok (.iload 6, 2) := by decide +kernel
theorem dX1_bestMatch_52 : decode cX1_bestMatch 52 = .ok (.invokevirtual 54, 3) := by decide +kernel
theorem dX1_bestMatch_55 : decode cX1_bestMatch 55 = .ok (.ifCond .eq 32, 3) := by decide +kernel
theorem dX1_bestMatch_58 : decode cX1_bestMatch 58 = .ok (.iload 4, 2) := by decide +kernel
theorem dX1_bestMatch_60 : decode cX1_bestMatch 60 = .ok (.aload_n 0, 1) := by decide +kernel
theorem dX1_bestMatch_61 : decode cX1_bestMatch 61 = .ok (.iload_n 1, 1) := by decide +kernel
theorem dX1_bestMatch_62 : decode cX1_bestMatch 62 = .ok (.iload_n 2, 1) := by decide +kernel
theorem dX1_bestMatch_63 : decode cX1_bestMatch 63 = .ok (.iload 5, 2) := by decide +kernel
theorem dX1_bestMatch_65 : decode cX1_bestMatch 65 = .ok (.iload 6, 2) := by decide +kernel
theorem dX1_bestMatch_67 : decode cX1_bestMatch 67 = .ok (.invokevirtual 57, 3) := by decide +kernel
theorem dX1_bestMatch_70 : decode cX1_bestMatch 70 = .ok (.bipush 100, 2) := by decide +kernel
theorem dX1_bestMatch_72 : decode cX1_bestMatch 72 = .ok (.imul, 1) := by decide +kernel
theorem dX1_bestMatch_73 : decode cX1_bestMatch 73 = .ok (.iload 5, 2) := by decide +kernel
theorem dX1_bestMatch_75 : decode cX1_bestMatch 75 = .ok (.bipush 10, 2) := by decide +kernel
theorem dX1_bestMatch_77 : decode cX1_bestMatch 77 = .ok (.imul, 1) := by decide +kernel
theorem dX1_bestMatch_78 : decode cX1_bestMatch 78 = .ok (.iadd, 1) := by decide +kernel
theorem dX1_bestMatch_79 : decode cX1_bestMatch 79 = .ok (.iload 6, 2) := by decide +kernel
theorem dX1_bestMatch_81 : decode cX1_bestMatch 81 = .ok (.iadd, 1) := by decide +kernel
theorem dX1_bestMatch_82 : decode cX1_bestMatch 82 = .ok (.invokestatic 49, 3) := by decide +kernel
theorem dX1_bestMatch_85 : decode cX1_bestMatch 85 = .ok (.istore 4, 2) := by decide +kernel
theorem dX1_bestMatch_87 : decode cX1_bestMatch 87 = .ok (.iinc 6 1, 3) := by decide +kernel
theorem dX1_bestMatch_90 : decode cX1_bestMatch 90 = .ok (.goto (-59), 3) := by decide +kernel
theorem dX1_bestMatch_93 : decode cX1_bestMatch 93 = .ok (.iinc 5 1, 3) := by decide +kernel
theorem dX1_bestMatch_96 : decode cX1_bestMatch 96 = .ok (.goto (-80), 3) := by decide +kernel
theorem dX1_bestMatch_99 : decode cX1_bestMatch 99 = .ok (.iload 4, 2) := by decide +kernel
theorem dX1_bestMatch_101 : decode cX1_bestMatch 101 = .ok (.iload_n 3, 1) := by decide +kernel
theorem dX1_bestMatch_102 : decode cX1_bestMatch 102 = .ok (.if_icmp .ge 8, 3) := by decide +kernel
theorem dX1_bestMatch_105 : decode cX1_bestMatch 105 = .ok (.iload 4, 2) := by decide +kernel
theorem dX1_bestMatch_107 : decode cX1_bestMatch 107 = .ok (.goto 4, 3) := by decide +kernel
theorem dX1_bestMatch_110 : decode cX1_bestMatch 110 = .ok (.iconst (-1), 1) := by decide +kernel
theorem dX1_bestMatch_111 : decode cX1_bestMatch 111 = .ok (.ireturn, 1) := by decide +kernel
theorem dX1_byMarriage_0 : decode cX1_byMarriage 0 = .ok (.aload_n 0, 1) := by decide +kernel
theorem dX1_byMarriage_1 : decode cX1_byMarriage 1 = .ok (.iload_n 1, 1) := by decide +kernel
theorem dX1_byMarriage_2 : decode cX1_byMarriage 2 = .ok (.iload_n 3, 1) := by decide +kernel
theorem dX1_byMarriage_3 : decode cX1_byMarriage 3 = .ok (.invokevirtual 34, 3) := by decide +kernel
theorem dX1_byMarriage_6 : decode cX1_byMarriage 6 = .ok (.iconst 1, 1) := by decide +kernel
theorem dX1_byMarriage_7 : decode cX1_byMarriage 7 = .ok (.iadd, 1) := by decide +kernel
theorem dX1_byMarriage_8 : decode cX1_byMarriage 8 = .ok (.aload_n 0, 1) := by decide +kernel
theorem dX1_byMarriage_9 : decode cX1_byMarriage 9 = .ok (.iload 4, 2) := by decide +kernel
theorem dX1_byMarriage_11 : decode cX1_byMarriage 11 = .ok (.iload_n 2, 1) := by decide +kernel
theorem dX1_byMarriage_12 : decode cX1_byMarriage 12 = .ok (.invokevirtual 34, 3) := by decide +kernel
theorem dX1_byMarriage_15 : decode cX1_byMarriage 15 = .ok (.iadd, 1) := by decide +kernel
theorem dX1_byMarriage_16 : decode cX1_byMarriage 16 = .ok (.istore 5, 2) := by decide +kernel
theorem dX1_byMarriage_18 : decode cX1_byMarriage 18 = .ok (.aload_n 0, 1) := by decide +kernel
theorem dX1_byMarriage_19 : decode cX1_byMarriage 19 = .ok (.iload_n 1, 1) := by decide +kernel
theorem dX1_byMarriage_20 : decode cX1_byMarriage 20 = .ok (.iload 4, 2) := by decide +kernel
theorem dX1_byMarriage_22 : decode cX1_byMarriage 22 = .ok (.invokevirtual 34, 3) := by decide +kernel
theorem dX1_byMarriage_25 : decode cX1_byMarriage 25 = .ok (.iconst 1, 1) := by decide +kernel
theorem dX1_byMarriage_26 : decode cX1_byMarriage 26 = .ok (.iadd, 1) := by decide +kernel
theorem dX1_byMarriage_27 : decode cX1_byMarriage 27 = .ok (.aload_n 0, 1) := by decide +kernel
theorem dX1_byMarriage_28 : decode cX1_byMarriage 28 = .ok (.iload_n 3, 1) := by decide +kernel
theorem dX1_byMarriage_29 : decode cX1_byMarriage 29 = .ok (.iload_n 2, 1) := by decide +kernel
theorem dX1_byMarriage_30 : decode cX1_byMarriage 30 = .ok (.invokevirtual 34, 3) := by decide +kernel
theorem dX1_byMarriage_33 : decode cX1_byMarriage 33 = .ok (.iadd, 1) := by decide +kernel
theorem dX1_byMarriage_34 : decode cX1_byMarriage 34 = .ok (.istore 6, 2) := by decide +kernel
theorem dX1_byMarriage_36 : decode cX1_byMarriage 36 = .ok (.aload_n 0, 1) := by decide +kernel
theorem dX1_byMarriage_37 : decode cX1_byMarriage 37 = .ok (.iload_n 1, 1) := by decide +kernel
theorem dX1_byMarriage_38 : decode cX1_byMarriage 38 = .ok (.iload_n 2, 1) := by decide +kernel
theorem dX1_byMarriage_39 : decode cX1_byMarriage 39 = .ok (.invokevirtual 34, 3) := by decide +kernel
theorem dX1_byMarriage_42 : decode cX1_byMarriage 42 = .ok (.iload 5, 2) := by decide +kernel
theorem dX1_byMarriage_44 : decode cX1_byMarriage 44 = .ok (.iload 6, 2) := by decide +kernel
theorem dX1_byMarriage_46 : decode cX1_byMarriage 46 = .ok (.invokestatic 49, 3) := by decide +kernel
theorem dX1_byMarriage_49 : decode cX1_byMarriage 49 = .ok (.invokestatic 49, 3) := by decide +kernel
theorem dX1_byMarriage_52 : decode cX1_byMarriage 52 = .ok (.ireturn, 1) := by decide +kernel
theorem dX1_copy_0 : decode cX1_copy 0 = .ok (.aload_n 0, 1) := by decide +kernel
theorem dX1_copy_1 : decode cX1_copy 1 = .ok (.aload_n 1, 1) := by decide +kernel
theorem dX1_copy_2 : decode cX1_copy 2 = .ok (.getfield 9, 3) := by decide +kernel
theorem dX1_copy_5 : decode cX1_copy 5 = .ok (.putfield 9, 3) := by decide +kernel
theorem dX1_copy_8 : decode cX1_copy 8 = .ok (.aload_n 1, 1) := by decide +kernel
theorem dX1_copy_9 : decode cX1_copy 9 = .ok (.getfield 15, 3) := by decide +kernel
theorem dX1_copy_12 : decode cX1_copy 12 = .ok (.iconst 0, 1) := by decide +kernel
theorem dX1_copy_13 : decode cX1_copy 13 = .ok (.aload_n 0, 1) := by decide +kernel
theorem dX1_copy_14 : decode cX1_copy 14 = .ok (.getfield 15, 3) := by decide +kernel
theorem dX1_copy_17 : decode cX1_copy 17 = .ok (.iconst 0, 1) := by decide +kernel
theorem dX1_copy_18 : decode cX1_copy 18 = .ok (.bipush 8, 2) := by decide +kernel
theorem dX1_copy_20 : decode cX1_copy 20 = .ok (.invokestatic 61, 3) := by decide +kernel
theorem dX1_copy_23 : decode cX1_copy 23 = .ok (.aload_n 1, 1) := by decide +kernel
theorem dX1_copy_24 : decode cX1_copy 24 = .ok (.getfield 19, 3) := by decide +kernel
theorem dX1_copy_27 : decode cX1_copy 27 = .ok (.iconst 0, 1) := by decide +kernel
theorem dX1_copy_28 : decode cX1_copy 28 = .ok (.aload_n 0, 1) := by decide +kernel
theorem dX1_copy_29 : decode cX1_copy 29 = .ok (.getfield 19, 3) := by decide +kernel
theorem dX1_copy_32 : decode cX1_copy 32 = .ok (.iconst 0, 1) := by decide +kernel
theorem dX1_copy_33 : decode cX1_copy 33 = .ok (.bipush 8, 2) := by decide +kernel
theorem dX1_copy_35 : decode cX1_copy 35 = .ok (.invokestatic 61, 3) := by decide +kernel
theorem dX1_copy_38 : decode cX1_copy 38 = .ok (.aload_n 1, 1) := by decide +kernel
theorem dX1_copy_39 : decode cX1_copy 39 = .ok (.getfield 22, 3) := by decide +kernel
theorem dX1_copy_42 : decode cX1_copy 42 = .ok (.iconst 0, 1) := by decide +kernel
theorem dX1_copy_43 : decode cX1_copy 43 = .ok (.aload_n 0, 1) := by decide +kernel
theorem dX1_copy_44 : decode cX1_copy 44 = .ok (.getfield 22, 3) := by decide +kernel
theorem dX1_copy_47 : decode cX1_copy 47 = .ok (.iconst 0, 1) := by decide +kernel
theorem dX1_copy_48 : decode cX1_copy 48 = .ok (.bipush 8, 2) := by decide +kernel
theorem dX1_copy_50 : decode cX1_copy 50 = .ok (.invokestatic 61, 3) := by decide +kernel
theorem dX1_copy_53 : decode cX1_copy 53 = .ok (.aload_n 1, 1) := by decide +kernel
theorem dX1_copy_54 : decode cX1_copy 54 = .ok (.getfield 25, 3) := by decide +kernel
theorem dX1_copy_57 : decode cX1_copy 57 = .ok (.iconst 0, 1) := by decide +kernel
theorem dX1_copy_58 : decode cX1_copy 58 = .ok (.aload_n 0, 1) := by decide +kernel
theorem dX1_copy_59 : decode cX1_copy 59 = .ok (.getfield 25, 3) := by decide +kernel
theorem dX1_copy_62 : decode cX1_copy 62 = .ok (.iconst 0, 1) := by decide +kernel
theorem dX1_copy_63 : decode cX1_copy 63 = .ok (.bipush 8, 2) := by decide +kernel
theorem dX1_copy_65 : decode cX1_copy 65 = .ok (.invokestatic 61, 3) := by decide +kernel
theorem dX1_copy_68 : decode cX1_copy 68 = .ok (.aload_n 1, 1) := by decide +kernel
theorem dX1_copy_69 : decode cX1_copy 69 = .ok (.getfield 28, 3) := by decide +kernel
theorem dX1_copy_72 : decode cX1_copy 72 = .ok (.iconst 0, 1) := by decide +kernel
theorem dX1_copy_73 : decode cX1_copy 73 = .ok (.aload_n 0, 1) := by decide +kernel
theorem dX1_copy_74 : decode cX1_copy 74 = .ok (.getfield 28, 3) := by decide +kernel
theorem dX1_copy_77 : decode cX1_copy 77 = .ok (.iconst 0, 1) := by decide +kernel
theorem dX1_copy_78 : decode cX1_copy 78 = .ok (.aload_n 0, 1) := by decide +kernel
theorem dX1_copy_79 : decode cX1_copy 79 = .ok (.getfield 28, 3) := by decide +kernel
theorem dX1_copy_82 : decode cX1_copy 82 = .ok (.arraylength, 1) := by decide +kernel
theorem dX1_copy_83 : decode cX1_copy 83 = .ok (.invokestatic 61, 3) := by decide +kernel
theorem dX1_copy_86 : decode cX1_copy 86 = .ok (.return_, 1) := by decide +kernel
theorem dX2_isKind_0 : decode cX2_isKind 0 = .ok (.iload_n 0, 1) := by decide +kernel
theorem dX2_isKind_1 : decode cX2_isKind 1 = .ok (.ifCond .lt 15, 3) := by decide +kernel
theorem dX2_isKind_4 : decode cX2_isKind 4 = .ok (.iload_n 0, 1) := by decide +kernel
theorem dX2_isKind_5 : decode cX2_isKind 5 = .ok (.getstatic 9, 3) := by decide +kernel
theorem dX2_isKind_8 : decode cX2_isKind 8 = .ok (.arraylength, 1) := by decide +kernel
theorem dX2_isKind_9 : decode cX2_isKind 9 = .ok (.if_icmp .ge 7, 3) := by decide +kernel
theorem dX2_isKind_12 : decode cX2_isKind 12 = .ok (.iconst 1, 1) := by decide +kernel
theorem dX2_isKind_13 : decode cX2_isKind 13 = .ok (.goto 4, 3) := by decide +kernel
theorem dX2_isKind_16 : decode cX2_isKind 16 = .ok (.iconst 0, 1) := by decide +kernel
theorem dX2_isKind_17 : decode cX2_isKind 17 = .ok (.ireturn, 1) := by decide +kernel
theorem dX2_above_0 : decode cX2_above 0 = .ok (.iload_n 0, 1) := by decide +kernel
theorem dX2_above_1 : decode cX2_above 1 = .ok (.invokestatic 15, 3) := by decide +kernel
theorem dX2_above_4 : decode cX2_above 4 = .ok (.ifCond .eq 11, 3) := by decide +kernel
theorem dX2_above_7 : decode cX2_above 7 = .ok (.getstatic 9, 3) := by decide +kernel
theorem dX2_above_10 : decode cX2_above 10 = .ok (.iload_n 0, 1) := by decide +kernel
theorem dX2_above_11 : decode cX2_above 11 = .ok (.iaload, 1) := by decide +kernel
theorem dX2_above_12 : decode cX2_above 12 = .ok (.goto 4, 3) := by decide +kernel
theorem dX2_above_15 : decode cX2_above 15 = .ok (.iconst (-1), 1) := by decide +kernel
theorem dX2_above_16 : decode cX2_above 16 = .ok (.ireturn, 1) := by decide +kernel
theorem dX2_isUnder_0 : decode cX2_isUnder 0 = .ok (.iload_n 0, 1) := by decide +kernel
theorem dX2_isUnder_1 : decode cX2_isUnder 1 = .ok (.istore_n 2, 1) := by decide +kernel
theorem dX2_isUnder_2 : decode cX2_isUnder 2 = .ok (.iconst 0, 1) := by decide +kernel
theorem dX2_isUnder_3 : decode cX2_isUnder 3 = .ok (.istore_n 3, 1) := by decide +kernel
theorem dX2_isUnder_4 : decode cX2_isUnder 4 = .ok (.iload_n 3, 1) := by decide +kernel
theorem dX2_isUnder_5 : decode cX2_isUnder 5 = .ok (.getstatic 9, 3) := by decide +kernel
theorem dX2_isUnder_8 : decode cX2_isUnder 8 = .ok (.arraylength, 1) := by decide +kernel
theorem dX2_isUnder_9 : decode cX2_isUnder 9 = .ok (.if_icmp .ge 25, 3) := by decide +kernel
theorem dX2_isUnder_12 : decode cX2_isUnder 12 = .ok (.iload_n 2, 1) := by decide +kernel
theorem dX2_isUnder_13 : decode cX2_isUnder 13 = .ok (.ifCond .lt 21, 3) := by decide +kernel
theorem dX2_isUnder_16 : decode cX2_isUnder 16 = .ok (.iload_n 2, 1) := by decide +kernel
theorem dX2_isUnder_17 : decode cX2_isUnder 17 = .ok (.iload_n 1, 1) := by decide +kernel
theorem dX2_isUnder_18 : decode cX2_isUnder 18 = .ok (.if_icmp .ne 5, 3) := by decide +kernel
theorem dX2_isUnder_21 : decode cX2_isUnder 21 = .ok (.iconst 1, 1) := by decide +kernel
theorem dX2_isUnder_22 : decode cX2_isUnder 22 = .ok (.ireturn, 1) := by decide +kernel
theorem dX2_isUnder_23 : decode cX2_isUnder 23 = .ok (.iload_n 2, 1) := by decide +kernel
theorem dX2_isUnder_24 : decode cX2_isUnder 24 = .ok (.invokestatic 19, 3) := by decide +kernel
theorem dX2_isUnder_27 : decode cX2_isUnder 27 = .ok (.istore_n 2, 1) := by decide +kernel
theorem dX2_isUnder_28 : decode cX2_isUnder 28 = .ok (.iinc 3 1, 3) := by decide +kernel
theorem dX2_isUnder_31 : decode cX2_isUnder 31 = .ok (.goto (-27), 3) := by decide +kernel
theorem dX2_isUnder_34 : decode cX2_isUnder 34 = .ok (.iconst 0, 1) := by decide +kernel
theorem dX2_isUnder_35 : decode cX2_isUnder 35 = .ok (.ireturn, 1) := by decide +kernel
theorem dX2_letDown_0 : decode cX2_letDown 0 = .ok (.iload_n 0, 1) := by decide +kernel
theorem dX2_letDown_1 : decode cX2_letDown 1 = .ok (.tableswitch 81 1 6 #[39, 43, 48, 52, 58, 67], 39) := by decide +kernel
theorem dX2_letDown_40 : decode cX2_letDown 40 = .ok (.iload_n 2, 1) := by decide +kernel
theorem dX2_letDown_41 : decode cX2_letDown 41 = .ok (.iconst 2, 1) := by decide +kernel
theorem dX2_letDown_42 : decode cX2_letDown 42 = .ok (.idiv, 1) := by decide +kernel
theorem dX2_letDown_43 : decode cX2_letDown 43 = .ok (.ireturn, 1) := by decide +kernel
theorem dX2_letDown_44 : decode cX2_letDown 44 = .ok (.iload_n 2, 1) := by decide +kernel
theorem dX2_letDown_45 : decode cX2_letDown 45 = .ok (.invokestatic 23, 3) := by decide +kernel
theorem dX2_letDown_48 : decode cX2_letDown 48 = .ok (.ireturn, 1) := by decide +kernel
theorem dX2_letDown_49 : decode cX2_letDown 49 = .ok (.iload_n 2, 1) := by decide +kernel
theorem dX2_letDown_50 : decode cX2_letDown 50 = .ok (.iconst 2, 1) := by decide +kernel
theorem dX2_letDown_51 : decode cX2_letDown 51 = .ok (.imul, 1) := by decide +kernel
theorem dX2_letDown_52 : decode cX2_letDown 52 = .ok (.ireturn, 1) := by decide +kernel
theorem dX2_letDown_53 : decode cX2_letDown 53 = .ok (.iload_n 2, 1) := by decide +kernel
theorem dX2_letDown_54 : decode cX2_letDown 54 = .ok (.iconst 2, 1) := by decide +kernel
theorem dX2_letDown_55 : decode cX2_letDown 55 = .ok (.idiv, 1) := by decide +kernel
theorem dX2_letDown_56 : decode cX2_letDown 56 = .ok (.iload_n 1, 1) := by decide +kernel
theorem dX2_letDown_57 : decode cX2_letDown 57 = .ok (.iadd, 1) := by decide +kernel
theorem dX2_letDown_58 : decode cX2_letDown 58 = .ok (.ireturn, 1) := by decide +kernel
theorem dX2_letDown_59 : decode cX2_letDown 59 = .ok (.iload_n 2, 1) := by decide +kernel
theorem dX2_letDown_60 : decode cX2_letDown 60 = .ok (.invokestatic 23, 3) := by decide +kernel
theorem dX2_letDown_63 : decode cX2_letDown 63 = .ok (.iconst 4, 1) := by decide +kernel
theorem dX2_letDown_64 : decode cX2_letDown 64 = .ok (.invokestatic 26, 3) := by decide +kernel
theorem dX2_letDown_67 : decode cX2_letDown 67 = .ok (.ireturn, 1) := by decide +kernel
theorem dX2_letDown_68 : decode cX2_letDown 68 = .ok (.iload_n 2, 1) := by decide +kernel
theorem dX2_letDown_69 : decode cX2_letDown 69 = .ok (.iconst 2, 1) := by decide +kernel
theorem dX2_letDown_70 : decode cX2_letDown 70 = .ok (.if_icmp .le 8, 3) := by decide +kernel
theorem dX2_letDown_73 : decode cX2_letDown 73 = .ok (.bipush 40, 2) := by decide +kernel
theorem dX2_letDown_75 : decode cX2_letDown 75 = .ok (.goto 6, 3) := by decide +kernel
theorem dX2_letDown_78 : decode cX2_letDown 78 = .ok (.iload_n 2, 1) := by decide +kernel
theorem dX2_letDown_79 : decode cX2_letDown 79 = .ok (.iconst 1, 1) := by decide +kernel
theorem dX2_letDown_80 : decode cX2_letDown 80 = .ok (.iadd, 1) := by decide +kernel
theorem dX2_letDown_81 : decode cX2_letDown 81 = .ok (.ireturn, 1) := by decide +kernel
theorem dX2_letDown_82 : decode cX2_letDown 82 = .ok (.iload_n 2, 1) := by decide +kernel
theorem dX2_letDown_83 : decode cX2_letDown 83 = .ok (.ireturn, 1) := by decide +kernel
theorem dX2_judged_0 : decode cX2_judged 0 = .ok (.iload_n 0, 1) := by decide +kernel
theorem dX2_judged_1 : decode cX2_judged 1 = .ok (.iconst 2, 1) := by decide +kernel
theorem dX2_judged_2 : decode cX2_judged 2 = .ok (.irem, 1) := by decide +kernel
theorem dX2_judged_3 : decode cX2_judged 3 = .ok (.ifCond .ne 7, 3) := by decide +kernel
theorem dX2_judged_6 : decode cX2_judged 6 = .ok (.iload_n 0, 1) := by decide +kernel
theorem dX2_judged_7 : decode cX2_judged 7 = .ok (.goto 6, 3) := by decide +kernel
theorem dX2_judged_10 : decode cX2_judged 10 = .ok (.iload_n 0, 1) := by decide +kernel
theorem dX2_judged_11 : decode cX2_judged 11 = .ok (.iconst 3, 1) := by decide +kernel
theorem dX2_judged_12 : decode cX2_judged 12 = .ok (.idiv, 1) := by decide +kernel
theorem dX2_judged_13 : decode cX2_judged 13 = .ok (.ireturn, 1) := by decide +kernel
theorem dX2_lookThrough_0 : decode cX2_lookThrough 0 = .ok (.iload_n 0, 1) := by decide +kernel
theorem dX2_lookThrough_1 : decode cX2_lookThrough 1 = .ok (.tableswitch 69 1 6 #[39, 43, 45, 47, 53, 67], 39) := by decide +kernel
theorem dX2_lookThrough_40 : decode cX2_lookThrough 40 = .ok (.iconst 2, 1) := by decide +kernel
theorem dX2_lookThrough_41 : decode cX2_lookThrough 41 = .ok (.iload_n 2, 1) := by decide +kernel
theorem dX2_lookThrough_42 : decode cX2_lookThrough 42 = .ok (.iadd, 1) := by decide +kernel
theorem dX2_lookThrough_43 : decode cX2_lookThrough 43 = .ok (.ireturn, 1) := by decide +kernel
theorem dX2_lookThrough_44 : decode cX2_lookThrough 44 = .ok (.iconst 5, 1) := by decide +kernel
theorem dX2_lookThrough_45 : decode cX2_lookThrough 45 = .ok (.ireturn, 1) := by decide +kernel
theorem dX2_lookThrough_46 : decode cX2_lookThrough 46 = .ok (.iconst 1, 1) := by decide +kernel
theorem dX2_lookThrough_47 : decode cX2_lookThrough 47 = .ok (.ireturn, 1) := by decide +kernel
theorem dX2_lookThrough_48 : decode cX2_lookThrough 48 = .ok (.iconst 2, 1) := by decide +kernel
theorem dX2_lookThrough_49 : decode cX2_lookThrough 49 = .ok (.iload_n 2, 1) := by decide +kernel
theorem dX2_lookThrough_50 : decode cX2_lookThrough 50 = .ok (.iadd, 1) := by decide +kernel
theorem dX2_lookThrough_51 : decode cX2_lookThrough 51 = .ok (.iload_n 1, 1) := by decide +kernel
theorem dX2_lookThrough_52 : decode cX2_lookThrough 52 = .ok (.iadd, 1) := by decide +kernel
theorem dX2_lookThrough_53 : decode cX2_lookThrough 53 = .ok (.ireturn, 1) := by decide +kernel
theorem dX2_lookThrough_54 : decode cX2_lookThrough 54 = .ok (.iconst 5, 1) := by decide +kernel
theorem dX2_lookThrough_55 : decode cX2_lookThrough 55 = .ok (.iload_n 3, 1) := by decide +kernel
theorem dX2_lookThrough_56 : decode cX2_lookThrough 56 = .ok (.iconst 2, 1) := by decide +kernel
theorem dX2_lookThrough_57 : decode cX2_lookThrough 57 = .ok (.irem, 1) := by decide +kernel
theorem dX2_lookThrough_58 : decode cX2_lookThrough 58 = .ok (.ifCond .ne 7, 3) := by decide +kernel
theorem dX2_lookThrough_61 : decode cX2_lookThrough 61 = .ok (.iload_n 1, 1) := by decide +kernel
theorem dX2_lookThrough_62 : decode cX2_lookThrough 62 = .ok (.goto 4, 3) := by decide +kernel
theorem dX2_lookThrough_65 : decode cX2_lookThrough 65 = .ok (.iconst 0, 1) := by decide +kernel
theorem dX2_lookThrough_66 : decode cX2_lookThrough 66 = .ok (.iadd, 1) := by decide +kernel
theorem dX2_lookThrough_67 : decode cX2_lookThrough 67 = .ok (.ireturn, 1) := by decide +kernel
theorem dX2_lookThrough_68 : decode cX2_lookThrough 68 = .ok (.iload_n 1, 1) := by decide +kernel
theorem dX2_lookThrough_69 : decode cX2_lookThrough 69 = .ok (.ireturn, 1) := by decide +kernel
theorem dX2_lookThrough_70 : decode cX2_lookThrough 70 = .ok (.iconst 2, 1) := by decide +kernel
theorem dX2_lookThrough_71 : decode cX2_lookThrough 71 = .ok (.ireturn, 1) := by decide +kernel
theorem dX3_init_0 : decode cX3_init 0 = .ok (.aload_n 0, 1) := by decide +kernel
theorem dX3_init_1 : decode cX3_init 1 = .ok (.invokespecial 3, 3) := by decide +kernel
theorem dX3_init_4 : decode cX3_init 4 = .ok (.aload_n 0, 1) := by decide +kernel
theorem dX3_init_5 : decode cX3_init 5 = .ok (.aload_n 1, 1) := by decide +kernel
theorem dX3_init_6 : decode cX3_init 6 = .ok (.putfield 9, 3) := by decide +kernel
theorem dX3_init_9 : decode cX3_init 9 = .ok (.aload_n 0, 1) := by decide +kernel
theorem dX3_init_10 : decode cX3_init 10 = .ok (.new 15, 3) := by decide +kernel
theorem dX3_init_13 : decode cX3_init 13 = .ok (.dup, 1) := by decide +kernel
theorem dX3_init_14 : decode cX3_init 14 = .ok (.bipush 60, 2) := by decide +kernel
theorem dX3_init_16 : decode cX3_init 16 = .ok (.invokespecial 17, 3) := by decide +kernel
theorem dX3_init_19 : decode cX3_init 19 = .ok (.putfield 20, 3) := by decide +kernel
theorem dX3_init_22 : decode cX3_init 22 = .ok (.aload_n 0, 1) := by decide +kernel
theorem dX3_init_23 : decode cX3_init 23 = .ok (.ldc 23, 2) := by decide +kernel
theorem dX3_init_25 : decode cX3_init 25 = .ok (.putfield 25, 3) := by decide +kernel
theorem dX3_init_28 : decode cX3_init 28 = .ok (.aload_n 0, 1) := by decide +kernel
theorem dX3_init_29 : decode cX3_init 29 = .ok (.iconst 0, 1) := by decide +kernel
theorem dX3_init_30 : decode cX3_init 30 = .ok (.putfield 29, 3) := by decide +kernel
theorem dX3_init_33 : decode cX3_init 33 = .ok (.return_, 1) := by decide +kernel
theorem dX3_faultFor_0 : decode cX3_faultFor 0 = .ok (.aload_n 0, 1) := by decide +kernel
theorem dX3_faultFor_1 : decode cX3_faultFor 1 = .ok (.iload_n 1, 1) := by decide +kernel
theorem dX3_faultFor_2 : decode cX3_faultFor 2 = .ok (.ifCond .ne 8, 3) := by decide +kernel
theorem dX3_faultFor_5 : decode cX3_faultFor 5 = .ok (.ldc 23, 2) := by decide +kernel
theorem dX3_faultFor_7 : decode cX3_faultFor 7 = .ok (.goto 5, 3) := by decide +kernel
theorem dX3_faultFor_10 : decode cX3_faultFor 10 = .ok (.ldc 33, 2) := by decide +kernel
theorem dX3_faultFor_12 : decode cX3_faultFor 12 = .ok (.putfield 25, 3) := by decide +kernel
theorem dX3_faultFor_15 : decode cX3_faultFor 15 = .ok (.aload_n 0, 1) := by decide +kernel
theorem dX3_faultFor_16 : decode cX3_faultFor 16 = .ok (.iconst 0, 1) := by decide +kernel
theorem dX3_faultFor_17 : decode cX3_faultFor 17 = .ok (.putfield 29, 3) := by decide +kernel
theorem dX3_faultFor_20 : decode cX3_faultFor 20 = .ok (.aload_n 0, 1) := by decide +kernel
theorem dX3_faultFor_21 : decode cX3_faultFor 21 = .ok (.getfield 20, 3) := by decide +kernel
theorem dX3_faultFor_24 : decode cX3_faultFor 24 = .ok (.invokevirtual 35, 3) := by decide +kernel
theorem dX3_faultFor_27 : decode cX3_faultFor 27 = .ok (.aload_n 0, 1) := by decide +kernel
theorem dX3_faultFor_28 : decode cX3_faultFor 28 = .ok (.iconst 0, 1) := by decide +kernel
theorem dX3_faultFor_29 : decode cX3_faultFor 29 = .ok (.iconst 0, 1) := by decide +kernel
theorem dX3_faultFor_30 : decode cX3_faultFor 30 = .ok (.invokevirtual 38, 3) := by decide +kernel
theorem dX3_faultFor_33 : decode cX3_faultFor 33 = .ok (.ifCond .eq 21, 3) := by decide +kernel
theorem dX3_faultFor_36 : decode cX3_faultFor 36 = .ok (.aload_n 0, 1) := by decide +kernel
theorem dX3_faultFor_37 : decode cX3_faultFor 37 = .ok (.getfield 29, 3) := by decide +kernel
theorem dX3_faultFor_40 : decode cX3_faultFor 40 = .ok (.aload_n 0, 1) := by decide +kernel
theorem dX3_faultFor_41 : decode cX3_faultFor 41 = .ok (.getfield 9, 3) := by decide +kernel
theorem dX3_faultFor_44 : decode cX3_faultFor 44 = .ok (.invokevirtual 42, 3) := by decide +kernel
theorem dX3_faultFor_47 : decode cX3_faultFor 47 = .ok (.if_icmp .ne 7, 3) := by decide +kernel
theorem dX3_faultFor_50 : decode cX3_faultFor 50 = .ok (.iconst 1, 1) := by decide +kernel
theorem dX3_faultFor_51 : decode cX3_faultFor 51 = .ok (.goto 4, 3) := by decide +kernel
theorem dX3_faultFor_54 : decode cX3_faultFor 54 = .ok (.iconst 0, 1) := by decide +kernel
theorem dX3_faultFor_55 : decode cX3_faultFor 55 = .ok (.istore_n 2, 1) := by decide +kernel
theorem dX3_faultFor_56 : decode cX3_faultFor 56 = .ok (.iload_n 2, 1) := by decide +kernel
theorem dX3_faultFor_57 : decode cX3_faultFor 57 = .ok (.ifCond .eq 7, 3) := by decide +kernel
theorem dX3_faultFor_60 : decode cX3_faultFor 60 = .ok (.iconst (-1), 1) := by decide +kernel
theorem dX3_faultFor_61 : decode cX3_faultFor 61 = .ok (.goto 7, 3) := by decide +kernel
theorem dX3_faultFor_64 : decode cX3_faultFor 64 = .ok (.aload_n 0, 1) := by decide +kernel
theorem dX3_faultFor_65 : decode cX3_faultFor 65 = .ok (.getfield 29, 3) := by decide +kernel
theorem dX3_faultFor_68 : decode cX3_faultFor 68 = .ok (.ireturn, 1) := by decide +kernel
theorem dX3_readsLevel_0 : decode cX3_readsLevel 0 = .ok (.iload_n 2, 1) := by decide +kernel
theorem dX3_readsLevel_1 : decode cX3_readsLevel 1 = .ok (.iconst 5, 1) := by decide +kernel
theorem dX3_readsLevel_2 : decode cX3_readsLevel 2 = .ok (.if_icmp .le 5, 3) := by decide +kernel
theorem dX3_readsLevel_5 : decode cX3_readsLevel 5 = .ok (.iconst 0, 1) := by decide +kernel
theorem dX3_readsLevel_6 : decode cX3_readsLevel 6 = .ok (.ireturn, 1) := by decide +kernel
theorem dX3_readsLevel_7 : decode cX3_readsLevel 7 = .ok (.iload_n 1, 1) := by decide +kernel
theorem dX3_readsLevel_8 : decode cX3_readsLevel 8 = .ok (.iconst 5, 1) := by decide +kernel
theorem dX3_readsLevel_9 : decode cX3_readsLevel 9 = .ok (.if_icmp .lt 9, 3) := by decide +kernel
theorem dX3_readsLevel_12 : decode cX3_readsLevel 12 = .ok (.aload_n 0, 1) := by decide +kernel
theorem dX3_readsLevel_13 : decode cX3_readsLevel 13 = .ok (.iload_n 2, 1) := by decide +kernel
theorem dX3_readsLevel_14 : decode cX3_readsLevel 14 = .ok (.invokevirtual 46, 3) := by decide +kernel
theorem dX3_readsLevel_17 : decode cX3_readsLevel 17 = .ok (.ireturn, 1) := by decide +kernel
theorem dX3_readsLevel_18 : decode cX3_readsLevel 18 = .ok (.aload_n 0, 1) := by decide +kernel
theorem dX3_readsLevel_19 : decode cX3_readsLevel 19 = .ok (.iload_n 1, 1) := by decide +kernel
theorem dX3_readsLevel_20 : decode cX3_readsLevel 20 = .ok (.iconst 1, 1) := by decide +kernel
theorem dX3_readsLevel_21 : decode cX3_readsLevel 21 = .ok (.iadd, 1) := by decide +kernel
theorem dX3_readsLevel_22 : decode cX3_readsLevel 22 = .ok (.iload_n 2, 1) := by decide +kernel
theorem dX3_readsLevel_23 : decode cX3_readsLevel 23 = .ok (.invokevirtual 38, 3) := by decide +kernel
theorem dX3_readsLevel_26 : decode cX3_readsLevel 26 = .ok (.ifCond .ne 5, 3) := by decide +kernel
theorem dX3_readsLevel_29 : decode cX3_readsLevel 29 = .ok (.iconst 0, 1) := by decide +kernel
theorem dX3_readsLevel_30 : decode cX3_readsLevel 30 = .ok (.ireturn, 1) := by decide +kernel
theorem dX3_readsLevel_31 : decode cX3_readsLevel 31 = .ok (.aload_n 0, 1) := by decide +kernel
theorem dX3_readsLevel_32 : decode cX3_readsLevel 32 = .ok (.getfield 29, 3) := by decide +kernel
theorem dX3_readsLevel_35 : decode cX3_readsLevel 35 = .ok (.aload_n 0, 1) := by decide +kernel
theorem dX3_readsLevel_36 : decode cX3_readsLevel 36 = .ok (.getfield 9, 3) := by decide +kernel
theorem dX3_readsLevel_39 : decode cX3_readsLevel 39 = .ok (.invokevirtual 42, 3) := by decide +kernel
theorem dX3_readsLevel_42 : decode cX3_readsLevel 42 = .ok (.if_icmp .ge 78, 3) := by decide +kernel
theorem dX3_readsLevel_45 : decode cX3_readsLevel 45 = .ok (.aload_n 0, 1) := by decide +kernel
theorem dX3_readsLevel_46 : decode cX3_readsLevel 46 = .ok (.getfield 9, 3) := by decide +kernel
theorem dX3_readsLevel_49 : decode cX3_readsLevel 49 = .ok (.aload_n 0, 1) := by decide +kernel
theorem dX3_readsLevel_50 : decode cX3_readsLevel 50 = .ok (.getfield 29, 3) := by decide +kernel
theorem dX3_readsLevel_53 : decode cX3_readsLevel 53 = .ok (.invokevirtual 50, 3) := by decide +kernel
theorem dX3_readsLevel_56 : decode cX3_readsLevel 56 = .ok (.invokestatic 53, 3) := by decide +kernel
theorem dX3_readsLevel_59 : decode cX3_readsLevel 59 = .ok (.iload_n 1, 1) := by decide +kernel
theorem dX3_readsLevel_60 : decode cX3_readsLevel 60 = .ok (.if_icmp .ne 60, 3) := by decide +kernel
theorem dX3_readsLevel_63 : decode cX3_readsLevel 63 = .ok (.aload_n 0, 1) := by decide +kernel
theorem dX3_readsLevel_64 : decode cX3_readsLevel 64 = .ok (.getfield 9, 3) := by decide +kernel
theorem dX3_readsLevel_67 : decode cX3_readsLevel 67 = .ok (.aload_n 0, 1) := by decide +kernel
theorem dX3_readsLevel_68 : decode cX3_readsLevel 68 = .ok (.getfield 29, 3) := by decide +kernel
theorem dX3_readsLevel_71 : decode cX3_readsLevel 71 = .ok (.invokevirtual 50, 3) := by decide +kernel
theorem dX3_readsLevel_74 : decode cX3_readsLevel 74 = .ok (.istore_n 3, 1) := by decide +kernel
theorem dX3_readsLevel_75 : decode cX3_readsLevel 75 = .ok (.aload_n 0, 1) := by decide +kernel
theorem dX3_readsLevel_76 : decode cX3_readsLevel 76 = .ok (.dup, 1) := by decide +kernel
theorem dX3_readsLevel_77 : decode cX3_readsLevel 77 = .ok (.getfield 29, 3) := by decide +kernel
theorem dX3_readsLevel_80 : decode cX3_readsLevel 80 = .ok (.iconst 1, 1) := by decide +kernel
theorem dX3_readsLevel_81 : decode cX3_readsLevel 81 = .ok (.iadd, 1) := by decide +kernel
theorem dX3_readsLevel_82 : decode cX3_readsLevel 82 = .ok (.putfield 29, 3) := by decide +kernel
theorem dX3_readsLevel_85 : decode cX3_readsLevel 85 = .ok (.aload_n 0, 1) := by decide +kernel
theorem dX3_readsLevel_86 : decode cX3_readsLevel 86 = .ok (.iload_n 1, 1) := by decide +kernel
theorem dX3_readsLevel_87 : decode cX3_readsLevel 87 = .ok (.iconst 1, 1) := by decide +kernel
theorem dX3_readsLevel_88 : decode cX3_readsLevel 88 = .ok (.iadd, 1) := by decide +kernel
theorem dX3_readsLevel_89 : decode cX3_readsLevel 89 = .ok (.iload_n 2, 1) := by decide +kernel
theorem dX3_readsLevel_90 : decode cX3_readsLevel 90 = .ok (.invokevirtual 38, 3) := by decide +kernel
theorem dX3_readsLevel_93 : decode cX3_readsLevel 93 = .ok (.ifCond .ne 5, 3) := by decide +kernel
theorem dX3_readsLevel_96 : decode cX3_readsLevel 96 = .ok (.iconst 0, 1) := by decide +kernel
theorem dX3_readsLevel_97 : decode cX3_readsLevel 97 = .ok (.ireturn, 1) := by decide +kernel
theorem dX3_readsLevel_98 : decode cX3_readsLevel 98 = .ok (.aload_n 0, 1) := by decide +kernel
theorem dX3_readsLevel_99 : decode cX3_readsLevel 99 = .ok (.getfield 20, 3) := by decide +kernel
theorem dX3_readsLevel_102 : decode cX3_readsLevel 102 = .ok (.sipush 10000, 3) := by decide +kernel
theorem dX3_readsLevel_105 : decode cX3_readsLevel 105 = .ok (.iload_n 3, 1) := by decide +kernel
theorem dX3_readsLevel_106 : decode cX3_readsLevel 106 = .ok (.iadd, 1) := by decide +kernel
theorem dX3_readsLevel_107 : decode cX3_readsLevel 107 = .ok (.invokevirtual 58, 3) := by decide +kernel
theorem dX3_readsLevel_110 : decode cX3_readsLevel 110 = .ok (.iload_n 1, 1) := by decide +kernel
theorem dX3_readsLevel_111 : decode cX3_readsLevel 111 = .ok (.iconst 2, 1) := by decide +kernel
theorem dX3_readsLevel_112 : decode cX3_readsLevel 112 = .ok (.if_icmp .ne 5, 3) := by decide +kernel
theorem dX3_readsLevel_115 : decode cX3_readsLevel 115 = .ok (.iconst 1, 1) := by decide +kernel
theorem dX3_readsLevel_116 : decode cX3_readsLevel 116 = .ok (.ireturn, 1) := by decide +kernel
theorem dX3_readsLevel_117 : decode cX3_readsLevel 117 = .ok (.goto (-86), 3) := by decide +kernel
theorem dX3_readsLevel_120 : decode cX3_readsLevel 120 = .ok (.iconst 1, 1) := by decide +kernel
theorem dX3_readsLevel_121 : decode cX3_readsLevel 121 = .ok (.ireturn, 1) := by decide +kernel
theorem dX3_readsUnit_0 : decode cX3_readsUnit 0 = .ok (.aload_n 0, 1) := by decide +kernel
theorem dX3_readsUnit_1 : decode cX3_readsUnit 1 = .ok (.getfield 9, 3) := by decide +kernel
theorem dX3_readsUnit_4 : decode cX3_readsUnit 4 = .ok (.aload_n 0, 1) := by decide +kernel
theorem dX3_readsUnit_5 : decode cX3_readsUnit 5 = .ok (.getfield 29, 3) := by decide +kernel
theorem dX3_readsUnit_8 : decode cX3_readsUnit 8 = .ok (.invokevirtual 50, 3) := by decide +kernel
theorem dX3_readsUnit_11 : decode cX3_readsUnit 11 = .ok (.istore_n 2, 1) := by decide +kernel
theorem dX3_readsUnit_12 : decode cX3_readsUnit 12 = .ok (.iload_n 2, 1) := by decide +kernel
theorem dX3_readsUnit_13 : decode cX3_readsUnit 13 = .ok (.invokestatic 61, 3) := by decide +kernel
theorem dX3_readsUnit_16 : decode cX3_readsUnit 16 = .ok (.ifCond .eq 9, 3) := by decide +kernel
theorem dX3_readsUnit_19 : decode cX3_readsUnit 19 = .ok (.aload_n 0, 1) := by decide +kernel
theorem dX3_readsUnit_20 : decode cX3_readsUnit 20 = .ok (.invokevirtual 64, 3) := by decide +kernel
theorem dX3_readsUnit_23 : decode cX3_readsUnit 23 = .ok (.iconst 1, 1) := by decide +kernel
theorem dX3_readsUnit_24 : decode cX3_readsUnit 24 = .ok (.ireturn, 1) := by decide +kernel
theorem dX3_readsUnit_25 : decode cX3_readsUnit 25 = .ok (.aload_n 0, 1) := by decide +kernel
theorem dX3_readsUnit_26 : decode cX3_readsUnit 26 = .ok (.getfield 25, 3) := by decide +kernel
theorem dX3_readsUnit_29 : decode cX3_readsUnit 29 = .ok (.iload_n 2, 1) := by decide +kernel
theorem dX3_readsUnit_30 : decode cX3_readsUnit 30 = .ok (.i2c, 1) := by decide +kernel
theorem dX3_readsUnit_31 : decode cX3_readsUnit 31 = .ok (.invokevirtual 67, 3) := by decide +kernel
theorem dX3_readsUnit_34 : decode cX3_readsUnit 34 = .ok (.istore_n 3, 1) := by decide +kernel
theorem dX3_readsUnit_35 : decode cX3_readsUnit 35 = .ok (.iload_n 3, 1) := by decide +kernel
theorem dX3_readsUnit_36 : decode cX3_readsUnit 36 = .ok (.ifCond .lt 25, 3) := by decide +kernel
theorem dX3_readsUnit_39 : decode cX3_readsUnit 39 = .ok (.aload_n 0, 1) := by decide +kernel
theorem dX3_readsUnit_40 : decode cX3_readsUnit 40 = .ok (.dup, 1) := by decide +kernel
theorem dX3_readsUnit_41 : decode cX3_readsUnit 41 = .ok (.getfield 29, 3) := by decide +kernel
theorem dX3_readsUnit_44 : decode cX3_readsUnit 44 = .ok (.iconst 1, 1) := by decide +kernel
theorem dX3_readsUnit_45 : decode cX3_readsUnit 45 = .ok (.iadd, 1) := by decide +kernel
theorem dX3_readsUnit_46 : decode cX3_readsUnit 46 = .ok (.putfield 29, 3) := by decide +kernel
theorem dX3_readsUnit_49 : decode cX3_readsUnit 49 = .ok (.aload_n 0, 1) := by decide +kernel
theorem dX3_readsUnit_50 : decode cX3_readsUnit 50 = .ok (.getfield 20, 3) := by decide +kernel
theorem dX3_readsUnit_53 : decode cX3_readsUnit 53 = .ok (.iconst (-1), 1) := by decide +kernel
theorem dX3_readsUnit_54 : decode cX3_readsUnit 54 = .ok (.iload_n 3, 1) := by decide +kernel
theorem dX3_readsUnit_55 : decode cX3_readsUnit 55 = .ok (.isub, 1) := by decide +kernel
theorem dX3_readsUnit_56 : decode cX3_readsUnit 56 = .ok (.invokevirtual 58, 3) := by decide +kernel
theorem dX3_readsUnit_59 : decode cX3_readsUnit 59 = .ok (.iconst 1, 1) := by decide +kernel
theorem dX3_readsUnit_60 : decode cX3_readsUnit 60 = .ok (.ireturn, 1) := by decide +kernel
theorem dX3_readsUnit_61 : decode cX3_readsUnit 61 = .ok (.iload_n 1, 1) := by decide +kernel
theorem dX3_readsUnit_62 : decode cX3_readsUnit 62 = .ok (.iconst 5, 1) := by decide +kernel
theorem dX3_readsUnit_63 : decode cX3_readsUnit 63 = .ok (.if_icmp .ge 15, 3) := by decide +kernel
theorem dX3_readsUnit_66 : decode cX3_readsUnit 66 = .ok (.iload_n 2, 1) := by decide +kernel
theorem dX3_readsUnit_67 : decode cX3_readsUnit 67 = .ok (.bipush 33, 2) := by decide +kernel
theorem dX3_readsUnit_69 : decode cX3_readsUnit 69 = .ok (.if_icmp .eq 11, 3) := by decide +kernel
theorem dX3_readsUnit_72 : decode cX3_readsUnit 72 = .ok (.iload_n 2, 1) := by decide +kernel
theorem dX3_readsUnit_73 : decode cX3_readsUnit 73 = .ok (.bipush 40, 2) := by decide +kernel
theorem dX3_readsUnit_75 : decode cX3_readsUnit 75 = .ok (.if_icmp .eq 5, 3) := by decide +kernel
theorem dX3_readsUnit_78 : decode cX3_readsUnit 78 = .ok (.iconst 0, 1) := by decide +kernel
theorem dX3_readsUnit_79 : decode cX3_readsUnit 79 = .ok (.ireturn, 1) := by decide +kernel
theorem dX3_readsUnit_80 : decode cX3_readsUnit 80 = .ok (.aload_n 0, 1) := by decide +kernel
theorem dX3_readsUnit_81 : decode cX3_readsUnit 81 = .ok (.dup, 1) := by decide +kernel
theorem dX3_readsUnit_82 : decode cX3_readsUnit 82 = .ok (.getfield 29, 3) := by decide +kernel
theorem dX3_readsUnit_85 : decode cX3_readsUnit 85 = .ok (.iconst 1, 1) := by decide +kernel
theorem dX3_readsUnit_86 : decode cX3_readsUnit 86 = .ok (.iadd, 1) := by decide +kernel
theorem dX3_readsUnit_87 : decode cX3_readsUnit 87 = .ok (.putfield 29, 3) := by decide +kernel
theorem dX3_readsUnit_90 : decode cX3_readsUnit 90 = .ok (.iload_n 2, 1) := by decide +kernel
theorem dX3_readsUnit_91 : decode cX3_readsUnit 91 = .ok (.bipush 33, 2) := by decide +kernel
theorem dX3_readsUnit_93 : decode cX3_readsUnit 93 = .ok (.if_icmp .ne 13, 3) := by decide +kernel
theorem dX3_readsUnit_96 : decode cX3_readsUnit 96 = .ok (.aload_n 0, 1) := by decide +kernel
theorem dX3_readsUnit_97 : decode cX3_readsUnit 97 = .ok (.iload_n 1, 1) := by decide +kernel
theorem dX3_readsUnit_98 : decode cX3_readsUnit 98 = .ok (.iconst 1, 1) := by decide +kernel
theorem dX3_readsUnit_99 : decode cX3_readsUnit 99 = .ok (.iadd, 1) := by decide +kernel
theorem dX3_readsUnit_100 : decode cX3_readsUnit 100 = .ok (.invokevirtual 72, 3) := by decide +kernel
theorem dX3_readsUnit_103 : decode cX3_readsUnit 103 = .ok (.goto 10, 3) := by decide +kernel
theorem dX3_readsUnit_106 : decode cX3_readsUnit 106 = .ok (.aload_n 0, 1) := by decide +kernel
theorem dX3_readsUnit_107 : decode cX3_readsUnit 107 = .ok (.iload_n 1, 1) := by decide +kernel
theorem dX3_readsUnit_108 : decode cX3_readsUnit 108 = .ok (.iconst 1, 1) := by decide +kernel
theorem dX3_readsUnit_109 : decode cX3_readsUnit 109 = .ok (.iadd, 1) := by decide +kernel
theorem dX3_readsUnit_110 : decode cX3_readsUnit 110 = .ok (.invokevirtual 75, 3) := by decide +kernel
theorem dX3_readsUnit_113 : decode cX3_readsUnit 113 = .ok (.ireturn, 1) := by decide +kernel
theorem dX3_readsDenied_0 : decode cX3_readsDenied 0 = .ok (.aload_n 0, 1) := by decide +kernel
theorem dX3_readsDenied_1 : decode cX3_readsDenied 1 = .ok (.iload_n 1, 1) := by decide +kernel
theorem dX3_readsDenied_2 : decode cX3_readsDenied 2 = .ok (.invokevirtual 46, 3) := by decide +kernel
theorem dX3_readsDenied_5 : decode cX3_readsDenied 5 = .ok (.ifCond .ne 5, 3) := by decide +kernel
theorem dX3_readsDenied_8 : decode cX3_readsDenied 8 = .ok (.iconst 0, 1) := by decide +kernel
theorem dX3_readsDenied_9 : decode cX3_readsDenied 9 = .ok (.ireturn, 1) := by decide +kernel
theorem dX3_readsDenied_10 : decode cX3_readsDenied 10 = .ok (.aload_n 0, 1) := by decide +kernel
theorem dX3_readsDenied_11 : decode cX3_readsDenied 11 = .ok (.getfield 20, 3) := by decide +kernel
theorem dX3_readsDenied_14 : decode cX3_readsDenied 14 = .ok (.sipush 10033, 3) := by decide +kernel
theorem dX3_readsDenied_17 : decode cX3_readsDenied 17 = .ok (.invokevirtual 58, 3) := by decide +kernel
theorem dX3_readsDenied_20 : decode cX3_readsDenied 20 = .ok (.iconst 1, 1) := by decide +kernel
theorem dX3_readsDenied_21 : decode cX3_readsDenied 21 = .ok (.ireturn, 1) := by decide +kernel
theorem dX3_readsClosed_0 : decode cX3_readsClosed 0 = .ok (.aload_n 0, 1) := by decide +kernel
theorem dX3_readsClosed_1 : decode cX3_readsClosed 1 = .ok (.iconst 0, 1) := by decide +kernel
theorem dX3_readsClosed_2 : decode cX3_readsClosed 2 = .ok (.iload_n 1, 1) := by decide +kernel
theorem dX3_readsClosed_3 : decode cX3_readsClosed 3 = .ok (.invokevirtual 38, 3) := by decide +kernel
theorem dX3_readsClosed_6 : decode cX3_readsClosed 6 = .ok (.ifCond .eq 19, 3) := by decide +kernel
theorem dX3_readsClosed_9 : decode cX3_readsClosed 9 = .ok (.aload_n 0, 1) := by decide +kernel
theorem dX3_readsClosed_10 : decode cX3_readsClosed 10 = .ok (.getfield 9, 3) := by decide +kernel
theorem dX3_readsClosed_13 : decode cX3_readsClosed 13 = .ok (.aload_n 0, 1) := by decide +kernel
theorem dX3_readsClosed_14 : decode cX3_readsClosed 14 = .ok (.getfield 29, 3) := by decide +kernel
theorem dX3_readsClosed_17 : decode cX3_readsClosed 17 = .ok (.invokevirtual 50, 3) := by decide +kernel
theorem dX3_readsClosed_20 : decode cX3_readsClosed 20 = .ok (.bipush 41, 2) := by decide +kernel
theorem dX3_readsClosed_22 : decode cX3_readsClosed 22 = .ok (.if_icmp .eq 5, 3) := by decide +kernel
theorem dX3_readsClosed_25 : decode cX3_readsClosed 25 = .ok (.iconst 0, 1) := by decide +kernel
theorem dX3_readsClosed_26 : decode cX3_readsClosed 26 = .ok (.ireturn, 1) := by decide +kernel
theorem dX3_readsClosed_27 : decode cX3_readsClosed 27 = .ok (.aload_n 0, 1) := by decide +kernel
theorem dX3_readsClosed_28 : decode cX3_readsClosed 28 = .ok (.dup, 1) := by decide +kernel
theorem dX3_readsClosed_29 : decode cX3_readsClosed 29 = .ok (.getfield 29, 3) := by decide +kernel
theorem dX3_readsClosed_32 : decode cX3_readsClosed 32 = .ok (.iconst 1, 1) := by decide +kernel
theorem dX3_readsClosed_33 : decode cX3_readsClosed 33 = .ok (.iadd, 1) := by decide +kernel
theorem dX3_readsClosed_34 : decode cX3_readsClosed 34 = .ok (.putfield 29, 3) := by decide +kernel
theorem dX3_readsClosed_37 : decode cX3_readsClosed 37 = .ok (.iconst 1, 1) := by decide +kernel
theorem dX3_readsClosed_38 : decode cX3_readsClosed 38 = .ok (.ireturn, 1) := by decide +kernel
theorem dX3_readNumber_0 : decode cX3_readNumber 0 = .ok (.iconst 0, 1) := by decide +kernel
theorem dX3_readNumber_1 : decode cX3_readNumber 1 = .ok (.istore_n 1, 1) := by decide +kernel
theorem dX3_readNumber_2 : decode cX3_readNumber 2 = .ok (.iconst 0, 1) := by decide +kernel
theorem dX3_readNumber_3 : decode cX3_readNumber 3 = .ok (.istore_n 2, 1) := by decide +kernel
theorem dX3_readNumber_4 : decode cX3_readNumber 4 = .ok (.iload_n 2, 1) := by decide +kernel
theorem dX3_readNumber_5 : decode cX3_readNumber 5 = .ok (.iconst 4, 1) := by decide +kernel
theorem dX3_readNumber_6 : decode cX3_readNumber 6 = .ok (.if_icmp .ge 56, 3) := by decide +kernel
theorem dX3_readNumber_9 : decode cX3_readNumber 9 = .ok (.aload_n 0, 1) := by decide +kernel
theorem dX3_readNumber_10 : decode cX3_readNumber 10 = .ok (.getfield 9, 3) := by decide +kernel
theorem dX3_readNumber_13 : decode cX3_readNumber 13 = .ok (.aload_n 0, 1) := by decide +kernel
theorem dX3_readNumber_14 : decode cX3_readNumber 14 = .ok (.getfield 29, 3) := by decide +kernel
theorem dX3_readNumber_17 : decode cX3_readNumber 17 = .ok (.invokevirtual 50, 3) := by decide +kernel
theorem dX3_readNumber_20 : decode cX3_readNumber 20 = .ok (.invokestatic 61, 3) := by decide +kernel
theorem dX3_readNumber_23 : decode cX3_readNumber 23 = .ok (.ifCond .eq 39, 3) := by decide +kernel
theorem dX3_readNumber_26 : decode cX3_readNumber 26 = .ok (.iload_n 1, 1) := by decide +kernel
theorem dX3_readNumber_27 : decode cX3_readNumber 27 = .ok (.bipush 10, 2) := by decide +kernel
theorem dX3_readNumber_29 : decode cX3_readNumber 29 = .ok (.imul, 1) := by decide +kernel
theorem dX3_readNumber_30 : decode cX3_readNumber 30 = .ok (.aload_n 0, 1) := by decide +kernel
theorem dX3_readNumber_31 : decode cX3_readNumber 31 = .ok (.getfield 9, 3) := by decide +kernel
theorem dX3_readNumber_34 : decode cX3_readNumber 34 = .ok (.aload_n 0, 1) := by decide +kernel
theorem dX3_readNumber_35 : decode cX3_readNumber 35 = .ok (.getfield 29, 3) := by decide +kernel
theorem dX3_readNumber_38 : decode cX3_readNumber 38 = .ok (.invokevirtual 50, 3) := by decide +kernel
theorem dX3_readNumber_41 : decode cX3_readNumber 41 = .ok (.bipush 48, 2) := by decide +kernel
theorem dX3_readNumber_43 : decode cX3_readNumber 43 = .ok (.isub, 1) := by decide +kernel
theorem dX3_readNumber_44 : decode cX3_readNumber 44 = .ok (.iadd, 1) := by decide +kernel
theorem dX3_readNumber_45 : decode cX3_readNumber 45 = .ok (.istore_n 1, 1) := by decide +kernel
theorem dX3_readNumber_46 : decode cX3_readNumber 46 = .ok (.aload_n 0, 1) := by decide +kernel
theorem dX3_readNumber_47 : decode cX3_readNumber 47 = .ok (.dup, 1) := by decide +kernel
theorem dX3_readNumber_48 : decode cX3_readNumber 48 = .ok (.getfield 29, 3) := by decide +kernel
theorem dX3_readNumber_51 : decode cX3_readNumber 51 = .ok (.iconst 1, 1) := by decide +kernel
theorem dX3_readNumber_52 : decode cX3_readNumber 52 = .ok (.iadd, 1) := by decide +kernel
theorem dX3_readNumber_53 : decode cX3_readNumber 53 = .ok (.putfield 29, 3) := by decide +kernel
theorem dX3_readNumber_56 : decode cX3_readNumber 56 = .ok (.iinc 2 1, 3) := by decide +kernel
theorem dX3_readNumber_59 : decode cX3_readNumber 59 = .ok (.goto (-55), 3) := by decide +kernel
theorem dX3_readNumber_62 : decode cX3_readNumber 62 = .ok (.aload_n 0, 1) := by decide +kernel
theorem dX3_readNumber_63 : decode cX3_readNumber 63 = .ok (.getfield 20, 3) := by decide +kernel
theorem dX3_readNumber_66 : decode cX3_readNumber 66 = .ok (.iload_n 1, 1) := by decide +kernel
theorem dX3_readNumber_67 : decode cX3_readNumber 67 = .ok (.invokevirtual 58, 3) := by decide +kernel
theorem dX3_readNumber_70 : decode cX3_readNumber 70 = .ok (.return_, 1) := by decide +kernel
theorem dX3_isDigit_0 : decode cX3_isDigit 0 = .ok (.iload_n 0, 1) := by decide +kernel
theorem dX3_isDigit_1 : decode cX3_isDigit 1 = .ok (.bipush 48, 2) := by decide +kernel
theorem dX3_isDigit_3 : decode cX3_isDigit 3 = .ok (.if_icmp .lt 13, 3) := by decide +kernel
theorem dX3_isDigit_6 : decode cX3_isDigit 6 = .ok (.iload_n 0, 1) := by decide +kernel
theorem dX3_isDigit_7 : decode cX3_isDigit 7 = .ok (.bipush 57, 2) := by decide +kernel
theorem dX3_isDigit_9 : decode cX3_isDigit 9 = .ok (.if_icmp .gt 7, 3) := by decide +kernel
theorem dX3_isDigit_12 : decode cX3_isDigit 12 = .ok (.iconst 1, 1) := by decide +kernel
theorem dX3_isDigit_13 : decode cX3_isDigit 13 = .ok (.goto 4, 3) := by decide +kernel
theorem dX3_isDigit_16 : decode cX3_isDigit 16 = .ok (.iconst 0, 1) := by decide +kernel
theorem dX3_isDigit_17 : decode cX3_isDigit 17 = .ok (.ireturn, 1) := by decide +kernel
theorem dX3_levelOf_0 : decode cX3_levelOf 0 = .ok (.iload_n 0, 1) := by decide +kernel
theorem dX3_levelOf_1 : decode cX3_levelOf 1 = .ok (.lookupswitch 101 #[(37, 99), (38, 93), (42, 99), (43, 97), (45, 97), (47, 99), (60, 95), (61, 95), (62, 95), (124, 91)], 91) := by decide +kernel
theorem dX3_levelOf_92 : decode cX3_levelOf 92 = .ok (.iconst 0, 1) := by decide +kernel
theorem dX3_levelOf_93 : decode cX3_levelOf 93 = .ok (.ireturn, 1) := by decide +kernel
theorem dX3_levelOf_94 : decode cX3_levelOf 94 = .ok (.iconst 1, 1) := by decide +kernel
theorem dX3_levelOf_95 : decode cX3_levelOf 95 = .ok (.ireturn, 1) := by decide +kernel
theorem dX3_levelOf_96 : decode cX3_levelOf 96 = .ok (.iconst 2, 1) := by decide +kernel
theorem dX3_levelOf_97 : decode cX3_levelOf 97 = .ok (.ireturn, 1) := by decide +kernel
theorem dX3_levelOf_98 : decode cX3_levelOf 98 = .ok (.iconst 3, 1) := by decide +kernel
theorem dX3_levelOf_99 : decode cX3_levelOf 99 = .ok (.ireturn, 1) := by decide +kernel
theorem dX3_levelOf_100 : decode cX3_levelOf 100 = .ok (.iconst 4, 1) := by decide +kernel
theorem dX3_levelOf_101 : decode cX3_levelOf 101 = .ok (.ireturn, 1) := by decide +kernel
theorem dX3_levelOf_102 : decode cX3_levelOf 102 = .ok (.iconst (-1), 1) := by decide +kernel
theorem dX3_levelOf_103 : decode cX3_levelOf 103 = .ok (.ireturn, 1) := by decide +kernel
theorem dX4_init_0 : decode cX4_init 0 = .ok (.aload_n 0, 1) := by decide +kernel
theorem dX4_init_1 : decode cX4_init 1 = .ok (.invokespecial 1, 3) := by decide +kernel
theorem dX4_init_4 : decode cX4_init 4 = .ok (.aload_n 0, 1) := by decide +kernel
theorem dX4_init_5 : decode cX4_init 5 = .ok (.iload_n 1, 1) := by decide +kernel
theorem dX4_init_6 : decode cX4_init 6 = .ok (.iconst 0, 1) := by decide +kernel
theorem dX4_init_7 : decode cX4_init 7 = .ok (.invokestatic 7, 3) := by decide +kernel
theorem dX4_init_10 : decode cX4_init 10 = .ok (.newarray .int, 2) := by decide +kernel
theorem dX4_init_12 : decode cX4_init 12 = .ok (.putfield 13, 3) := by decide +kernel
theorem dX4_init_15 : decode cX4_init 15 = .ok (.aload_n 0, 1) := by decide +kernel
theorem dX4_init_16 : decode cX4_init 16 = .ok (.iconst 0, 1) := by decide +kernel
theorem dX4_init_17 : decode cX4_init 17 = .ok (.putfield 19, 3) := by decide +kernel
theorem dX4_init_20 : decode cX4_init 20 = .ok (.return_, 1) := by decide +kernel
theorem dX4_size_0 : decode cX4_size 0 = .ok (.aload_n 0, 1) := by decide +kernel
theorem dX4_size_1 : decode cX4_size 1 = .ok (.getfield 19, 3) := by decide +kernel
theorem dX4_size_4 : decode cX4_size 4 = .ok (.ireturn, 1) := by decide +kernel
theorem dX4_hasRoom_0 : decode cX4_hasRoom 0 = .ok (.iload_n 1, 1) := by decide +kernel
theorem dX4_hasRoom_1 : decode cX4_hasRoom 1 = .ok (.aload_n 0, 1) := by decide +kernel
theorem dX4_hasRoom_2 : decode cX4_hasRoom 2 = .ok (.getfield 13, 3) := by decide +kernel
theorem dX4_hasRoom_5 : decode cX4_hasRoom 5 = .ok (.arraylength, 1) := by decide +kernel
theorem dX4_hasRoom_6 : decode cX4_hasRoom 6 = .ok (.aload_n 0, 1) := by decide +kernel
theorem dX4_hasRoom_7 : decode cX4_hasRoom 7 = .ok (.getfield 19, 3) := by decide +kernel
theorem dX4_hasRoom_10 : decode cX4_hasRoom 10 = .ok (.isub, 1) := by decide +kernel
theorem dX4_hasRoom_11 : decode cX4_hasRoom 11 = .ok (.if_icmp .gt 7, 3) := by decide +kernel
theorem dX4_hasRoom_14 : decode cX4_hasRoom 14 = .ok (.iconst 1, 1) := by decide +kernel
theorem dX4_hasRoom_15 : decode cX4_hasRoom 15 = .ok (.goto 4, 3) := by decide +kernel
theorem dX4_hasRoom_18 : decode cX4_hasRoom 18 = .ok (.iconst 0, 1) := by decide +kernel
theorem dX4_hasRoom_19 : decode cX4_hasRoom 19 = .ok (.ireturn, 1) := by decide +kernel
theorem dX4_stands_0 : decode cX4_stands 0 = .ok (.iload_n 1, 1) := by decide +kernel
theorem dX4_stands_1 : decode cX4_stands 1 = .ok (.ifCond .lt 15, 3) := by decide +kernel
theorem dX4_stands_4 : decode cX4_stands 4 = .ok (.iload_n 1, 1) := by decide +kernel
theorem dX4_stands_5 : decode cX4_stands 5 = .ok (.aload_n 0, 1) := by decide +kernel
theorem dX4_stands_6 : decode cX4_stands 6 = .ok (.getfield 19, 3) := by decide +kernel
theorem dX4_stands_9 : decode cX4_stands 9 = .ok (.if_icmp .ge 7, 3) := by decide +kernel
theorem dX4_stands_12 : decode cX4_stands 12 = .ok (.iconst 1, 1) := by decide +kernel
theorem dX4_stands_13 : decode cX4_stands 13 = .ok (.goto 4, 3) := by decide +kernel
theorem dX4_stands_16 : decode cX4_stands 16 = .ok (.iconst 0, 1) := by decide +kernel
theorem dX4_stands_17 : decode cX4_stands 17 = .ok (.ireturn, 1) := by decide +kernel
theorem dX4_stand_0 : decode cX4_stand 0 = .ok (.iload_n 1, 1) := by decide +kernel
theorem dX4_stand_1 : decode cX4_stand 1 = .ok (.ifCond .lt 29, 3) := by decide +kernel
theorem dX4_stand_4 : decode cX4_stand 4 = .ok (.iload_n 2, 1) := by decide +kernel
theorem dX4_stand_5 : decode cX4_stand 5 = .ok (.ifCond .lt 25, 3) := by decide +kernel
theorem dX4_stand_8 : decode cX4_stand 8 = .ok (.iload_n 1, 1) := by decide +kernel
theorem dX4_stand_9 : decode cX4_stand 9 = .ok (.aload_n 0, 1) := by decide +kernel
theorem dX4_stand_10 : decode cX4_stand 10 = .ok (.getfield 19, 3) := by decide +kernel
theorem dX4_stand_13 : decode cX4_stand 13 = .ok (.if_icmp .gt 17, 3) := by decide +kernel
theorem dX4_stand_16 : decode cX4_stand 16 = .ok (.iload_n 2, 1) := by decide +kernel
theorem dX4_stand_17 : decode cX4_stand 17 = .ok (.aload_n 0, 1) := by decide +kernel
theorem dX4_stand_18 : decode cX4_stand 18 = .ok (.getfield 19, 3) := by decide +kernel
theorem dX4_stand_21 : decode cX4_stand 21 = .ok (.iload_n 1, 1) := by decide +kernel
theorem dX4_stand_22 : decode cX4_stand 22 = .ok (.isub, 1) := by decide +kernel
theorem dX4_stand_23 : decode cX4_stand 23 = .ok (.if_icmp .gt 7, 3) := by decide +kernel
theorem dX4_stand_26 : decode cX4_stand 26 = .ok (.iconst 1, 1) := by decide +kernel
theorem dX4_stand_27 : decode cX4_stand 27 = .ok (.goto 4, 3) := by decide +kernel
theorem dX4_stand_30 : decode cX4_stand 30 = .ok (.iconst 0, 1) := by decide +kernel
theorem dX4_stand_31 : decode cX4_stand 31 = .ok (.ireturn, 1) := by decide +kernel
theorem dX4_at_0 : decode cX4_at 0 = .ok (.iload_n 1, 1) := by decide +kernel
theorem dX4_at_1 : decode cX4_at 1 = .ok (.ifCond .lt 20, 3) := by decide +kernel
theorem dX4_at_4 : decode cX4_at 4 = .ok (.iload_n 1, 1) := by decide +kernel
theorem dX4_at_5 : decode cX4_at 5 = .ok (.aload_n 0, 1) := by decide +kernel
theorem dX4_at_6 : decode cX4_at 6 = .ok (.getfield 19, 3) := by decide +kernel
theorem dX4_at_9 : decode cX4_at 9 = .ok (.if_icmp .ge 12, 3) := by decide +kernel
theorem dX4_at_12 : decode cX4_at 12 = .ok (.aload_n 0, 1) := by decide +kernel
theorem dX4_at_13 : decode cX4_at 13 = .ok (.getfield 13, 3) := by decide +kernel
theorem dX4_at_16 : decode cX4_at 16 = .ok (.iload_n 1, 1) := by decide +kernel
theorem dX4_at_17 : decode cX4_at 17 = .ok (.iaload, 1) := by decide +kernel
theorem dX4_at_18 : decode cX4_at 18 = .ok (.goto 4, 3) := by decide +kernel
theorem dX4_at_21 : decode cX4_at 21 = .ok (.iconst 0, 1) := by decide +kernel
theorem dX4_at_22 : decode cX4_at 22 = .ok (.ireturn, 1) := by decide +kernel
theorem dX4_write_0 : decode cX4_write 0 = .ok (.aload_n 0, 1) := by decide +kernel
theorem dX4_write_1 : decode cX4_write 1 = .ok (.iload_n 1, 1) := by decide +kernel
theorem dX4_write_2 : decode cX4_write 2 = .ok (.invokevirtual 23, 3) := by decide +kernel
theorem dX4_write_5 : decode cX4_write 5 = .ok (.ifCond .eq 10, 3) := by decide +kernel
theorem dX4_write_8 : decode cX4_write 8 = .ok (.aload_n 0, 1) := by decide +kernel
theorem dX4_write_9 : decode cX4_write 9 = .ok (.getfield 13, 3) := by decide +kernel
theorem dX4_write_12 : decode cX4_write 12 = .ok (.iload_n 1, 1) := by decide +kernel
theorem dX4_write_13 : decode cX4_write 13 = .ok (.iload_n 2, 1) := by decide +kernel
theorem dX4_write_14 : decode cX4_write 14 = .ok (.iastore, 1) := by decide +kernel
theorem dX4_write_15 : decode cX4_write 15 = .ok (.return_, 1) := by decide +kernel
theorem dX4_add_0 : decode cX4_add 0 = .ok (.aload_n 0, 1) := by decide +kernel
theorem dX4_add_1 : decode cX4_add 1 = .ok (.getfield 19, 3) := by decide +kernel
theorem dX4_add_4 : decode cX4_add 4 = .ok (.aload_n 0, 1) := by decide +kernel
theorem dX4_add_5 : decode cX4_add 5 = .ok (.getfield 13, 3) := by decide +kernel
theorem dX4_add_8 : decode cX4_add 8 = .ok (.arraylength, 1) := by decide +kernel
theorem dX4_add_9 : decode cX4_add 9 = .ok (.if_icmp .ge 23, 3) := by decide +kernel
theorem dX4_add_12 : decode cX4_add 12 = .ok (.aload_n 0, 1) := by decide +kernel
theorem dX4_add_13 : decode cX4_add 13 = .ok (.getfield 13, 3) := by decide +kernel
theorem dX4_add_16 : decode cX4_add 16 = .ok (.aload_n 0, 1) := by decide +kernel
theorem dX4_add_17 : decode cX4_add 17 = .ok (.getfield 19, 3) := by decide +kernel
theorem dX4_add_20 : decode cX4_add 20 = .ok (.iload_n 1, 1) := by decide +kernel
theorem dX4_add_21 : decode cX4_add 21 = .ok (.iastore, 1) := by decide +kernel
theorem dX4_add_22 : decode cX4_add 22 = .ok (.aload_n 0, 1) := by decide +kernel
theorem dX4_add_23 : decode cX4_add 23 = .ok (.dup, 1) := by decide +kernel
theorem dX4_add_24 : decode cX4_add 24 = .ok (.getfield 19, 3) := by decide +kernel
theorem dX4_add_27 : decode cX4_add 27 = .ok (.iconst 1, 1) := by decide +kernel
theorem dX4_add_28 : decode cX4_add 28 = .ok (.iadd, 1) := by decide +kernel
theorem dX4_add_29 : decode cX4_add 29 = .ok (.putfield 19, 3) := by decide +kernel
theorem dX4_add_32 : decode cX4_add 32 = .ok (.return_, 1) := by decide +kernel
theorem dX4_clear_0 : decode cX4_clear 0 = .ok (.aload_n 0, 1) := by decide +kernel
theorem dX4_clear_1 : decode cX4_clear 1 = .ok (.iconst 0, 1) := by decide +kernel
theorem dX4_clear_2 : decode cX4_clear 2 = .ok (.putfield 19, 3) := by decide +kernel
theorem dX4_clear_5 : decode cX4_clear 5 = .ok (.return_, 1) := by decide +kernel
theorem dX4_copy_0 : decode cX4_copy 0 = .ok (.aload_n 0, 1) := by decide +kernel
theorem dX4_copy_1 : decode cX4_copy 1 = .ok (.aload_n 1, 1) := by decide +kernel
theorem dX4_copy_2 : decode cX4_copy 2 = .ok (.getfield 19, 3) := by decide +kernel
theorem dX4_copy_5 : decode cX4_copy 5 = .ok (.aload_n 0, 1) := by decide +kernel
theorem dX4_copy_6 : decode cX4_copy 6 = .ok (.getfield 13, 3) := by decide +kernel
theorem dX4_copy_9 : decode cX4_copy 9 = .ok (.arraylength, 1) := by decide +kernel
theorem dX4_copy_10 : decode cX4_copy 10 = .ok (.invokestatic 27, 3) := by decide +kernel
theorem dX4_copy_13 : decode cX4_copy 13 = .ok (.putfield 19, 3) := by decide +kernel
theorem dX4_copy_16 : decode cX4_copy 16 = .ok (.aload_n 1, 1) := by decide +kernel
theorem dX4_copy_17 : decode cX4_copy 17 = .ok (.getfield 13, 3) := by decide +kernel
theorem dX4_copy_20 : decode cX4_copy 20 = .ok (.iconst 0, 1) := by decide +kernel
theorem dX4_copy_21 : decode cX4_copy 21 = .ok (.aload_n 0, 1) := by decide +kernel
theorem dX4_copy_22 : decode cX4_copy 22 = .ok (.getfield 13, 3) := by decide +kernel
theorem dX4_copy_25 : decode cX4_copy 25 = .ok (.iconst 0, 1) := by decide +kernel
theorem dX4_copy_26 : decode cX4_copy 26 = .ok (.aload_n 0, 1) := by decide +kernel
theorem dX4_copy_27 : decode cX4_copy 27 = .ok (.getfield 19, 3) := by decide +kernel
theorem dX4_copy_30 : decode cX4_copy 30 = .ok (.invokestatic 30, 3) := by decide +kernel
theorem dX4_copy_33 : decode cX4_copy 33 = .ok (.return_, 1) := by decide +kernel
theorem dX4_take_0 : decode cX4_take 0 = .ok (.aload_n 0, 1) := by decide +kernel
theorem dX4_take_1 : decode cX4_take 1 = .ok (.iload_n 1, 1) := by decide +kernel
theorem dX4_take_2 : decode cX4_take 2 = .ok (.iload 4, 2) := by decide +kernel
theorem dX4_take_4 : decode cX4_take 4 = .ok (.invokevirtual 36, 3) := by decide +kernel
theorem dX4_take_7 : decode cX4_take 7 = .ok (.ifCond .eq 28, 3) := by decide +kernel
theorem dX4_take_10 : decode cX4_take 10 = .ok (.aload_n 2, 1) := by decide +kernel
theorem dX4_take_11 : decode cX4_take 11 = .ok (.iload_n 3, 1) := by decide +kernel
theorem dX4_take_12 : decode cX4_take 12 = .ok (.iload 4, 2) := by decide +kernel
theorem dX4_take_14 : decode cX4_take 14 = .ok (.invokevirtual 36, 3) := by decide +kernel
theorem dX4_take_17 : decode cX4_take 17 = .ok (.ifCond .eq 18, 3) := by decide +kernel
theorem dX4_take_20 : decode cX4_take 20 = .ok (.aload_n 2, 1) := by decide +kernel
theorem dX4_take_21 : decode cX4_take 21 = .ok (.getfield 13, 3) := by decide +kernel
theorem dX4_take_24 : decode cX4_take 24 = .ok (.iload_n 3, 1) := by decide +kernel
theorem dX4_take_25 : decode cX4_take 25 = .ok (.aload_n 0, 1) := by decide +kernel
theorem dX4_take_26 : decode cX4_take 26 = .ok (.getfield 13, 3) := by decide +kernel
theorem dX4_take_29 : decode cX4_take 29 = .ok (.iload_n 1, 1) := by decide +kernel
theorem dX4_take_30 : decode cX4_take 30 = .ok (.iload 4, 2) := by decide +kernel
theorem dX4_take_32 : decode cX4_take 32 = .ok (.invokestatic 30, 3) := by decide +kernel
theorem dX4_take_35 : decode cX4_take 35 = .ok (.return_, 1) := by decide +kernel
theorem dX5_init_0 : decode cX5_init 0 = .ok (.aload_n 0, 1) := by decide +kernel
theorem dX5_init_1 : decode cX5_init 1 = .ok (.invokespecial 3, 3) := by decide +kernel
theorem dX5_init_4 : decode cX5_init 4 = .ok (.aload_n 0, 1) := by decide +kernel
theorem dX5_init_5 : decode cX5_init 5 = .ok (.new 9, 3) := by decide +kernel
theorem dX5_init_8 : decode cX5_init 8 = .ok (.dup, 1) := by decide +kernel
theorem dX5_init_9 : decode cX5_init 9 = .ok (.bipush 24, 2) := by decide +kernel
theorem dX5_init_11 : decode cX5_init 11 = .ok (.invokespecial 11, 3) := by decide +kernel
theorem dX5_init_14 : decode cX5_init 14 = .ok (.putfield 14, 3) := by decide +kernel
theorem dX5_init_17 : decode cX5_init 17 = .ok (.aload_n 0, 1) := by decide +kernel
theorem dX5_init_18 : decode cX5_init 18 = .ok (.iconst 0, 1) := by decide +kernel
theorem dX5_init_19 : decode cX5_init 19 = .ok (.putfield 20, 3) := by decide +kernel
theorem dX5_init_22 : decode cX5_init 22 = .ok (.return_, 1) := by decide +kernel
theorem dX5_areBits_0 : decode cX5_areBits 0 = .ok (.iload_n 0, 1) := by decide +kernel
theorem dX5_areBits_1 : decode cX5_areBits 1 = .ok (.ifCond .eq 21, 3) := by decide +kernel
theorem dX5_areBits_4 : decode cX5_areBits 4 = .ok (.iload_n 0, 1) := by decide +kernel
theorem dX5_areBits_5 : decode cX5_areBits 5 = .ok (.bipush 8, 2) := by decide +kernel
theorem dX5_areBits_7 : decode cX5_areBits 7 = .ok (.if_icmp .eq 15, 3) := by decide +kernel
theorem dX5_areBits_10 : decode cX5_areBits 10 = .ok (.iload_n 0, 1) := by decide +kernel
theorem dX5_areBits_11 : decode cX5_areBits 11 = .ok (.bipush 16, 2) := by decide +kernel
theorem dX5_areBits_13 : decode cX5_areBits 13 = .ok (.if_icmp .eq 9, 3) := by decide +kernel
theorem dX5_areBits_16 : decode cX5_areBits 16 = .ok (.iload_n 0, 1) := by decide +kernel
theorem dX5_areBits_17 : decode cX5_areBits 17 = .ok (.bipush 32, 2) := by decide +kernel
theorem dX5_areBits_19 : decode cX5_areBits 19 = .ok (.if_icmp .ne 7, 3) := by decide +kernel
theorem dX5_areBits_22 : decode cX5_areBits 22 = .ok (.iconst 1, 1) := by decide +kernel
theorem dX5_areBits_23 : decode cX5_areBits 23 = .ok (.goto 4, 3) := by decide +kernel
theorem dX5_areBits_26 : decode cX5_areBits 26 = .ok (.iconst 0, 1) := by decide +kernel
theorem dX5_areBits_27 : decode cX5_areBits 27 = .ok (.ireturn, 1) := by decide +kernel
theorem dX5_isMissing_0 : decode cX5_isMissing 0 = .ok (.aload_n 0, 1) := by decide +kernel
theorem dX5_isMissing_1 : decode cX5_isMissing 1 = .ok (.getfield 20, 3) := by decide +kernel
theorem dX5_isMissing_4 : decode cX5_isMissing 4 = .ok (.ifCond .ne 7, 3) := by decide +kernel
theorem dX5_isMissing_7 : decode cX5_isMissing 7 = .ok (.iconst 1, 1) := by decide +kernel
theorem dX5_isMissing_8 : decode cX5_isMissing 8 = .ok (.goto 4, 3) := by decide +kernel
theorem dX5_isMissing_11 : decode cX5_isMissing 11 = .ok (.iconst 0, 1) := by decide +kernel
theorem dX5_isMissing_12 : decode cX5_isMissing 12 = .ok (.ireturn, 1) := by decide +kernel
theorem dX5_makeNew_0 : decode cX5_makeNew 0 = .ok (.aload_n 0, 1) := by decide +kernel
theorem dX5_makeNew_1 : decode cX5_makeNew 1 = .ok (.iload_n 1, 1) := by decide +kernel
theorem dX5_makeNew_2 : decode cX5_makeNew 2 = .ok (.putfield 20, 3) := by decide +kernel
theorem dX5_makeNew_5 : decode cX5_makeNew 5 = .ok (.aload_n 0, 1) := by decide +kernel
theorem dX5_makeNew_6 : decode cX5_makeNew 6 = .ok (.getfield 14, 3) := by decide +kernel
theorem dX5_makeNew_9 : decode cX5_makeNew 9 = .ok (.invokevirtual 24, 3) := by decide +kernel
theorem dX5_makeNew_12 : decode cX5_makeNew 12 = .ok (.iconst 0, 1) := by decide +kernel
theorem dX5_makeNew_13 : decode cX5_makeNew 13 = .ok (.istore_n 3, 1) := by decide +kernel
theorem dX5_makeNew_14 : decode cX5_makeNew 14 = .ok (.iload_n 3, 1) := by decide +kernel
theorem dX5_makeNew_15 : decode cX5_makeNew 15 = .ok (.iload_n 2, 1) := by decide +kernel
theorem dX5_makeNew_16 : decode cX5_makeNew 16 = .ok (.if_icmp .ge 30, 3) := by decide +kernel
theorem dX5_makeNew_19 : decode cX5_makeNew 19 = .ok (.iload_n 3, 1) := by decide +kernel
theorem dX5_makeNew_20 : decode cX5_makeNew 20 = .ok (.bipush 24, 2) := by decide +kernel
theorem dX5_makeNew_22 : decode cX5_makeNew 22 = .ok (.if_icmp .ge 24, 3) := by decide +kernel
theorem dX5_makeNew_25 : decode cX5_makeNew 25 = .ok (.aload_n 0, 1) := by decide +kernel
theorem dX5_makeNew_26 : decode cX5_makeNew 26 = .ok (.getfield 20, 3) := by decide +kernel
theorem dX5_makeNew_29 : decode cX5_makeNew 29 = .ok (.ifCond .eq 17, 3) := by decide +kernel
theorem dX5_makeNew_32 : decode cX5_makeNew 32 = .ok (.aload_n 0, 1) := by decide +kernel
theorem dX5_makeNew_33 : decode cX5_makeNew 33 = .ok (.getfield 14, 3) := by decide +kernel
theorem dX5_makeNew_36 : decode cX5_makeNew 36 = .ok (.iconst 0, 1) := by decide +kernel
theorem dX5_makeNew_37 : decode cX5_makeNew 37 = .ok (.invokevirtual 27, 3) := by decide +kernel
theorem dX5_makeNew_40 : decode cX5_makeNew 40 = .ok (.iinc 3 1, 3) := by decide +kernel
theorem dX5_makeNew_43 : decode cX5_makeNew 43 = .ok (.goto (-29), 3) := by decide +kernel
theorem dX5_makeNew_46 : decode cX5_makeNew 46 = .ok (.return_, 1) := by decide +kernel
theorem dX5_write_0 : decode cX5_write 0 = .ok (.aload_n 0, 1) := by decide +kernel
theorem dX5_write_1 : decode cX5_write 1 = .ok (.getfield 14, 3) := by decide +kernel
theorem dX5_write_4 : decode cX5_write 4 = .ok (.iload_n 1, 1) := by decide +kernel
theorem dX5_write_5 : decode cX5_write 5 = .ok (.aload_n 0, 1) := by decide +kernel
theorem dX5_write_6 : decode cX5_write 6 = .ok (.getfield 20, 3) := by decide +kernel
theorem dX5_write_9 : decode cX5_write 9 = .ok (.bipush 8, 2) := by decide +kernel
theorem dX5_write_11 : decode cX5_write 11 = .ok (.if_icmp .ne 8, 3) := by decide +kernel
theorem dX5_write_14 : decode cX5_write 14 = .ok (.iload_n 2, 1) := by decide +kernel
theorem dX5_write_15 : decode cX5_write 15 = .ok (.i2b, 1) := by decide +kernel
theorem dX5_write_16 : decode cX5_write 16 = .ok (.goto 18, 3) := by decide +kernel
theorem dX5_write_19 : decode cX5_write 19 = .ok (.aload_n 0, 1) := by decide +kernel
theorem dX5_write_20 : decode cX5_write 20 = .ok (.getfield 20, 3) := by decide +kernel
theorem dX5_write_23 : decode cX5_write 23 = .ok (.bipush 16, 2) := by decide +kernel
theorem dX5_write_25 : decode cX5_write 25 = .ok (.if_icmp .ne 8, 3) := by decide +kernel
theorem dX5_write_28 : decode cX5_write 28 = .ok (.iload_n 2, 1) := by decide +kernel
theorem dX5_write_29 : decode cX5_write 29 = .ok (.i2s, 1) := by decide +kernel
theorem dX5_write_30 : decode cX5_write 30 = .ok (.goto 4, 3) := by decide +kernel
theorem dX5_write_33 : decode cX5_write 33 = .ok (.iload_n 2, 1) := by decide +kernel
theorem dX5_write_34 : decode cX5_write 34 = .ok (.invokevirtual 30, 3) := by decide +kernel
theorem dX5_write_37 : decode cX5_write 37 = .ok (.return_, 1) := by decide +kernel
theorem dX6_init_0 : decode cX6_init 0 = .ok (.aload_n 0, 1) := by decide +kernel
theorem dX6_init_1 : decode cX6_init 1 = .ok (.invokespecial 3, 3) := by decide +kernel
theorem dX6_init_4 : decode cX6_init 4 = .ok (.aload_n 0, 1) := by decide +kernel
theorem dX6_init_5 : decode cX6_init 5 = .ok (.new 9, 3) := by decide +kernel
theorem dX6_init_8 : decode cX6_init 8 = .ok (.dup, 1) := by decide +kernel
theorem dX6_init_9 : decode cX6_init 9 = .ok (.bipush 60, 2) := by decide +kernel
theorem dX6_init_11 : decode cX6_init 11 = .ok (.invokespecial 11, 3) := by decide +kernel
theorem dX6_init_14 : decode cX6_init 14 = .ok (.putfield 14, 3) := by decide +kernel
theorem dX6_init_17 : decode cX6_init 17 = .ok (.aload_n 0, 1) := by decide +kernel
theorem dX6_init_18 : decode cX6_init 18 = .ok (.bipush 60, 2) := by decide +kernel
theorem dX6_init_20 : decode cX6_init 20 = .ok (.newarray .int, 2) := by decide +kernel
theorem dX6_init_22 : decode cX6_init 22 = .ok (.putfield 20, 3) := by decide +kernel
theorem dX6_init_25 : decode cX6_init 25 = .ok (.return_, 1) := by decide +kernel
theorem dX6_isGiven_0 : decode cX6_isGiven 0 = .ok (.aload_n 0, 1) := by decide +kernel
theorem dX6_isGiven_1 : decode cX6_isGiven 1 = .ok (.getfield 14, 3) := by decide +kernel
theorem dX6_isGiven_4 : decode cX6_isGiven 4 = .ok (.invokevirtual 24, 3) := by decide +kernel
theorem dX6_isGiven_7 : decode cX6_isGiven 7 = .ok (.ifCond .le 7, 3) := by decide +kernel
theorem dX6_isGiven_10 : decode cX6_isGiven 10 = .ok (.iconst 1, 1) := by decide +kernel
theorem dX6_isGiven_11 : decode cX6_isGiven 11 = .ok (.goto 4, 3) := by decide +kernel
theorem dX6_isGiven_14 : decode cX6_isGiven 14 = .ok (.iconst 0, 1) := by decide +kernel
theorem dX6_isGiven_15 : decode cX6_isGiven 15 = .ok (.ireturn, 1) := by decide +kernel
theorem dX6_worked_0 : decode cX6_worked 0 = .ok (.iconst 0, 1) := by decide +kernel
theorem dX6_worked_1 : decode cX6_worked 1 = .ok (.istore 4, 2) := by decide +kernel
theorem dX6_worked_3 : decode cX6_worked 3 = .ok (.iconst 0, 1) := by decide +kernel
theorem dX6_worked_4 : decode cX6_worked 4 = .ok (.istore 5, 2) := by decide +kernel
theorem dX6_worked_6 : decode cX6_worked 6 = .ok (.iload 5, 2) := by decide +kernel
theorem dX6_worked_8 : decode cX6_worked 8 = .ok (.aload_n 0, 1) := by decide +kernel
theorem dX6_worked_9 : decode cX6_worked 9 = .ok (.getfield 14, 3) := by decide +kernel
theorem dX6_worked_12 : decode cX6_worked 12 = .ok (.invokevirtual 24, 3) := by decide +kernel
theorem dX6_worked_15 : decode cX6_worked 15 = .ok (.if_icmp .ge 159, 3) := by decide +kernel
theorem dX6_worked_18 : decode cX6_worked 18 = .ok (.aload_n 0, 1) := by decide +kernel
theorem dX6_worked_19 : decode cX6_worked 19 = .ok (.getfield 14, 3) := by decide +kernel
theorem dX6_worked_22 : decode cX6_worked 22 = .ok (.iload 5, 2) := by decide +kernel
theorem dX6_worked_24 : decode cX6_worked 24 = .ok (.invokevirtual 28, 3) := by decide +kernel
theorem dX6_worked_27 : decode cX6_worked 27 = .ok (.istore 6, 2) := by decide +kernel
theorem dX6_worked_29 : decode cX6_worked 29 = .ok (.iload 6, 2) := by decide +kernel
theorem dX6_worked_31 : decode cX6_worked 31 = .ok (.sipush 10033, 3) := by decide +kernel
theorem dX6_worked_34 : decode cX6_worked 34 = .ok (.if_icmp .ne 38, 3) := by decide +kernel
theorem dX6_worked_37 : decode cX6_worked 37 = .ok (.iload 4, 2) := by decide +kernel
theorem dX6_worked_39 : decode cX6_worked 39 = .ok (.iconst 1, 1) := by decide +kernel
theorem dX6_worked_40 : decode cX6_worked 40 = .ok (.if_icmp .lt 128, 3) := by decide +kernel
theorem dX6_worked_43 : decode cX6_worked 43 = .ok (.aload_n 0, 1) := by decide +kernel
theorem dX6_worked_44 : decode cX6_worked 44 = .ok (.getfield 20, 3) := by decide +kernel
theorem dX6_worked_47 : decode cX6_worked 47 = .ok (.iload 4, 2) := by decide +kernel
theorem dX6_worked_49 : decode cX6_worked 49 = .ok (.iconst 1, 1) := by decide +kernel
theorem dX6_worked_50 : decode cX6_worked 50 = .ok (.isub, 1) := by decide +kernel
theorem dX6_worked_51 : decode cX6_worked 51 = .ok (.aload_n 0, 1) := by decide +kernel
theorem dX6_worked_52 : decode cX6_worked 52 = .ok (.getfield 20, 3) := by decide +kernel
theorem dX6_worked_55 : decode cX6_worked 55 = .ok (.iload 4, 2) := by decide +kernel
theorem dX6_worked_57 : decode cX6_worked 57 = .ok (.iconst 1, 1) := by decide +kernel
theorem dX6_worked_58 : decode cX6_worked 58 = .ok (.isub, 1) := by decide +kernel
theorem dX6_worked_59 : decode cX6_worked 59 = .ok (.iaload, 1) := by decide +kernel
theorem dX6_worked_60 : decode cX6_worked 60 = .ok (.ifCond .ne 7, 3) := by decide +kernel
theorem dX6_worked_63 : decode cX6_worked 63 = .ok (.iconst 1, 1) := by decide +kernel
theorem dX6_worked_64 : decode cX6_worked 64 = .ok (.goto 4, 3) := by decide +kernel
theorem dX6_worked_67 : decode cX6_worked 67 = .ok (.iconst 0, 1) := by decide +kernel
theorem dX6_worked_68 : decode cX6_worked 68 = .ok (.iastore, 1) := by decide +kernel
theorem dX6_worked_69 : decode cX6_worked 69 = .ok (.goto 99, 3) := by decide +kernel
theorem dX6_worked_72 : decode cX6_worked 72 = .ok (.iload 6, 2) := by decide +kernel
theorem dX6_worked_74 : decode cX6_worked 74 = .ok (.sipush 10000, 3) := by decide +kernel
theorem dX6_worked_77 : decode cX6_worked 77 = .ok (.if_icmp .lt 51, 3) := by decide +kernel
theorem dX6_worked_80 : decode cX6_worked 80 = .ok (.iload 4, 2) := by decide +kernel
theorem dX6_worked_82 : decode cX6_worked 82 = .ok (.iconst 2, 1) := by decide +kernel
theorem dX6_worked_83 : decode cX6_worked 83 = .ok (.if_icmp .lt 85, 3) := by decide +kernel
theorem dX6_worked_86 : decode cX6_worked 86 = .ok (.aload_n 0, 1) := by decide +kernel
theorem dX6_worked_87 : decode cX6_worked 87 = .ok (.getfield 20, 3) := by decide +kernel
theorem dX6_worked_90 : decode cX6_worked 90 = .ok (.iload 4, 2) := by decide +kernel
theorem dX6_worked_92 : decode cX6_worked 92 = .ok (.iconst 2, 1) := by decide +kernel
theorem dX6_worked_93 : decode cX6_worked 93 = .ok (.isub, 1) := by decide +kernel
theorem dX6_worked_94 : decode cX6_worked 94 = .ok (.iload 6, 2) := by decide +kernel
theorem dX6_worked_96 : decode cX6_worked 96 = .ok (.sipush 10000, 3) := by decide +kernel
theorem dX6_worked_99 : decode cX6_worked 99 = .ok (.isub, 1) := by decide +kernel
theorem dX6_worked_100 : decode cX6_worked 100 = .ok (.aload_n 0, 1) := by decide +kernel
theorem dX6_worked_101 : decode cX6_worked 101 = .ok (.getfield 20, 3) := by decide +kernel
theorem dX6_worked_104 : decode cX6_worked 104 = .ok (.iload 4, 2) := by decide +kernel
theorem dX6_worked_106 : decode cX6_worked 106 = .ok (.iconst 2, 1) := by decide +kernel
theorem dX6_worked_107 : decode cX6_worked 107 = .ok (.isub, 1) := by decide +kernel
theorem dX6_worked_108 : decode cX6_worked 108 = .ok (.iaload, 1) := by decide +kernel
theorem dX6_worked_109 : decode cX6_worked 109 = .ok (.aload_n 0, 1) := by decide +kernel
theorem dX6_worked_110 : decode cX6_worked 110 = .ok (.getfield 20, 3) := by decide +kernel
theorem dX6_worked_113 : decode cX6_worked 113 = .ok (.iload 4, 2) := by decide +kernel
theorem dX6_worked_115 : decode cX6_worked 115 = .ok (.iconst 1, 1) := by decide +kernel
theorem dX6_worked_116 : decode cX6_worked 116 = .ok (.isub, 1) := by decide +kernel
theorem dX6_worked_117 : decode cX6_worked 117 = .ok (.iaload, 1) := by decide +kernel
theorem dX6_worked_118 : decode cX6_worked 118 = .ok (.invokestatic 32, 3) := by decide +kernel
theorem dX6_worked_121 : decode cX6_worked 121 = .ok (.iastore, 1) := by decide +kernel
theorem dX6_worked_122 : decode cX6_worked 122 = .ok (.iinc 4 (-1), 3) := by decide +kernel
theorem dX6_worked_125 : decode cX6_worked 125 = .ok (.goto 43, 3) := by decide +kernel
theorem dX6_worked_128 : decode cX6_worked 128 = .ok (.iload 4, 2) := by decide +kernel
theorem dX6_worked_130 : decode cX6_worked 130 = .ok (.aload_n 0, 1) := by decide +kernel
theorem dX6_worked_131 : decode cX6_worked 131 = .ok (.getfield 20, 3) := by decide +kernel
theorem dX6_worked_134 : decode cX6_worked 134 = .ok (.arraylength, 1) := by decide +kernel
theorem dX6_worked_135 : decode cX6_worked 135 = .ok (.if_icmp .ge 33, 3) := by decide +kernel
theorem dX6_worked_138 : decode cX6_worked 138 = .ok (.aload_n 0, 1) := by decide +kernel
theorem dX6_worked_139 : decode cX6_worked 139 = .ok (.getfield 20, 3) := by decide +kernel
theorem dX6_worked_142 : decode cX6_worked 142 = .ok (.iload 4, 2) := by decide +kernel
theorem dX6_worked_144 : decode cX6_worked 144 = .ok (.iload 6, 2) := by decide +kernel
theorem dX6_worked_146 : decode cX6_worked 146 = .ok (.ifCond .lt 8, 3) := by decide +kernel
theorem dX6_worked_149 : decode cX6_worked 149 = .ok (.iload 6, 2) := by decide +kernel
theorem dX6_worked_151 : decode cX6_worked 151 = .ok (.goto 13, 3) := by decide +kernel
theorem dX6_worked_154 : decode cX6_worked 154 = .ok (.iconst (-1), 1) := by decide +kernel
theorem dX6_worked_155 : decode cX6_worked 155 = .ok (.iload 6, 2) := by decide +kernel
theorem dX6_worked_157 : decode cX6_worked 157 = .ok (.isub, 1) := by decide +kernel
theorem dX6_worked_158 : decode cX6_worked 158 = .ok (.iload_n 1, 1) := by decide +kernel
theorem dX6_worked_159 : decode cX6_worked 159 = .ok (.iload_n 2, 1) := by decide +kernel
theorem dX6_worked_160 : decode cX6_worked 160 = .ok (.iload_n 3, 1) := by decide +kernel
theorem dX6_worked_161 : decode cX6_worked 161 = .ok (.invokestatic 36, 3) := by decide +kernel
theorem dX6_worked_164 : decode cX6_worked 164 = .ok (.iastore, 1) := by decide +kernel
theorem dX6_worked_165 : decode cX6_worked 165 = .ok (.iinc 4 1, 3) := by decide +kernel
theorem dX6_worked_168 : decode cX6_worked 168 = .ok (.iinc 5 1, 3) := by decide +kernel
theorem dX6_worked_171 : decode cX6_worked 171 = .ok (.goto (-165), 3) := by decide +kernel
theorem dX6_worked_174 : decode cX6_worked 174 = .ok (.aload_n 0, 1) := by decide +kernel
theorem dX6_worked_175 : decode cX6_worked 175 = .ok (.getfield 20, 3) := by decide +kernel
theorem dX6_worked_178 : decode cX6_worked 178 = .ok (.iconst 0, 1) := by decide +kernel
theorem dX6_worked_179 : decode cX6_worked 179 = .ok (.iaload, 1) := by decide +kernel
theorem dX6_worked_180 : decode cX6_worked 180 = .ok (.ireturn, 1) := by decide +kernel
theorem dX6_named_0 : decode cX6_named 0 = .ok (.iload_n 0, 1) := by decide +kernel
theorem dX6_named_1 : decode cX6_named 1 = .ok (.ifCond .ne 7, 3) := by decide +kernel
theorem dX6_named_4 : decode cX6_named 4 = .ok (.iload_n 1, 1) := by decide +kernel
theorem dX6_named_5 : decode cX6_named 5 = .ok (.goto 13, 3) := by decide +kernel
theorem dX6_named_8 : decode cX6_named 8 = .ok (.iload_n 0, 1) := by decide +kernel
theorem dX6_named_9 : decode cX6_named 9 = .ok (.iconst 1, 1) := by decide +kernel
theorem dX6_named_10 : decode cX6_named 10 = .ok (.if_icmp .ne 7, 3) := by decide +kernel
theorem dX6_named_13 : decode cX6_named 13 = .ok (.iload_n 2, 1) := by decide +kernel
theorem dX6_named_14 : decode cX6_named 14 = .ok (.goto 4, 3) := by decide +kernel
theorem dX6_named_17 : decode cX6_named 17 = .ok (.iload_n 3, 1) := by decide +kernel
theorem dX6_named_18 : decode cX6_named 18 = .ok (.ireturn, 1) := by decide +kernel
theorem dX6_joined_0 : decode cX6_joined 0 = .ok (.iload_n 0, 1) := by decide +kernel
theorem dX6_joined_1 : decode cX6_joined 1 = .ok (.lookupswitch 188 #[(37, 176), (38, 105), (42, 160), (43, 152), (45, 156), (47, 164), (60, 119), (61, 130), (62, 141), (124, 91)], 91) := by decide +kernel
theorem dX6_joined_92 : decode cX6_joined 92 = .ok (.iload_n 1, 1) := by decide +kernel
theorem dX6_joined_93 : decode cX6_joined 93 = .ok (.ifCond .ne 7, 3) := by decide +kernel
theorem dX6_joined_96 : decode cX6_joined 96 = .ok (.iload_n 2, 1) := by decide +kernel
theorem dX6_joined_97 : decode cX6_joined 97 = .ok (.ifCond .eq 7, 3) := by decide +kernel
theorem dX6_joined_100 : decode cX6_joined 100 = .ok (.iconst 1, 1) := by decide +kernel
theorem dX6_joined_101 : decode cX6_joined 101 = .ok (.goto 4, 3) := by decide +kernel
theorem dX6_joined_104 : decode cX6_joined 104 = .ok (.iconst 0, 1) := by decide +kernel
theorem dX6_joined_105 : decode cX6_joined 105 = .ok (.ireturn, 1) := by decide +kernel
theorem dX6_joined_106 : decode cX6_joined 106 = .ok (.iload_n 1, 1) := by decide +kernel
theorem dX6_joined_107 : decode cX6_joined 107 = .ok (.ifCond .eq 11, 3) := by decide +kernel
theorem dX6_joined_110 : decode cX6_joined 110 = .ok (.iload_n 2, 1) := by decide +kernel
theorem dX6_joined_111 : decode cX6_joined 111 = .ok (.ifCond .eq 7, 3) := by decide +kernel
theorem dX6_joined_114 : decode cX6_joined 114 = .ok (.iconst 1, 1) := by decide +kernel
theorem dX6_joined_115 : decode cX6_joined 115 = .ok (.goto 4, 3) := by decide +kernel
theorem dX6_joined_118 : decode cX6_joined 118 = .ok (.iconst 0, 1) := by decide +kernel
theorem dX6_joined_119 : decode cX6_joined 119 = .ok (.ireturn, 1) := by decide +kernel
theorem dX6_joined_120 : decode cX6_joined 120 = .ok (.iload_n 1, 1) := by decide +kernel
theorem dX6_joined_121 : decode cX6_joined 121 = .ok (.iload_n 2, 1) := by decide +kernel
theorem dX6_joined_122 : decode cX6_joined 122 = .ok (.if_icmp .ge 7, 3) := by decide +kernel
theorem dX6_joined_125 : decode cX6_joined 125 = .ok (.iconst 1, 1) := by decide +kernel
theorem dX6_joined_126 : decode cX6_joined 126 = .ok (.goto 4, 3) := by decide +kernel
theorem dX6_joined_129 : decode cX6_joined 129 = .ok (.iconst 0, 1) := by decide +kernel
theorem dX6_joined_130 : decode cX6_joined 130 = .ok (.ireturn, 1) := by decide +kernel
theorem dX6_joined_131 : decode cX6_joined 131 = .ok (.iload_n 1, 1) := by decide +kernel
theorem dX6_joined_132 : decode cX6_joined 132 = .ok (.iload_n 2, 1) := by decide +kernel
theorem dX6_joined_133 : decode cX6_joined 133 = .ok (.if_icmp .ne 7, 3) := by decide +kernel
theorem dX6_joined_136 : decode cX6_joined 136 = .ok (.iconst 1, 1) := by decide +kernel
theorem dX6_joined_137 : decode cX6_joined 137 = .ok (.goto 4, 3) := by decide +kernel
theorem dX6_joined_140 : decode cX6_joined 140 = .ok (.iconst 0, 1) := by decide +kernel
theorem dX6_joined_141 : decode cX6_joined 141 = .ok (.ireturn, 1) := by decide +kernel
theorem dX6_joined_142 : decode cX6_joined 142 = .ok (.iload_n 1, 1) := by decide +kernel
theorem dX6_joined_143 : decode cX6_joined 143 = .ok (.iload_n 2, 1) := by decide +kernel
theorem dX6_joined_144 : decode cX6_joined 144 = .ok (.if_icmp .le 7, 3) := by decide +kernel
theorem dX6_joined_147 : decode cX6_joined 147 = .ok (.iconst 1, 1) := by decide +kernel
theorem dX6_joined_148 : decode cX6_joined 148 = .ok (.goto 4, 3) := by decide +kernel
theorem dX6_joined_151 : decode cX6_joined 151 = .ok (.iconst 0, 1) := by decide +kernel
theorem dX6_joined_152 : decode cX6_joined 152 = .ok (.ireturn, 1) := by decide +kernel
theorem dX6_joined_153 : decode cX6_joined 153 = .ok (.iload_n 1, 1) := by decide +kernel
theorem dX6_joined_154 : decode cX6_joined 154 = .ok (.iload_n 2, 1) := by decide +kernel
theorem dX6_joined_155 : decode cX6_joined 155 = .ok (.iadd, 1) := by decide +kernel
theorem dX6_joined_156 : decode cX6_joined 156 = .ok (.ireturn, 1) := by decide +kernel
theorem dX6_joined_157 : decode cX6_joined 157 = .ok (.iload_n 1, 1) := by decide +kernel
theorem dX6_joined_158 : decode cX6_joined 158 = .ok (.iload_n 2, 1) := by decide +kernel
theorem dX6_joined_159 : decode cX6_joined 159 = .ok (.isub, 1) := by decide +kernel
theorem dX6_joined_160 : decode cX6_joined 160 = .ok (.ireturn, 1) := by decide +kernel
theorem dX6_joined_161 : decode cX6_joined 161 = .ok (.iload_n 1, 1) := by decide +kernel
theorem dX6_joined_162 : decode cX6_joined 162 = .ok (.iload_n 2, 1) := by decide +kernel
theorem dX6_joined_163 : decode cX6_joined 163 = .ok (.imul, 1) := by decide +kernel
theorem dX6_joined_164 : decode cX6_joined 164 = .ok (.ireturn, 1) := by decide +kernel
theorem dX6_joined_165 : decode cX6_joined 165 = .ok (.iload_n 2, 1) := by decide +kernel
theorem dX6_joined_166 : decode cX6_joined 166 = .ok (.ifCond .ne 7, 3) := by decide +kernel
theorem dX6_joined_169 : decode cX6_joined 169 = .ok (.iconst 0, 1) := by decide +kernel
theorem dX6_joined_170 : decode cX6_joined 170 = .ok (.goto 6, 3) := by decide +kernel
theorem dX6_joined_173 : decode cX6_joined 173 = .ok (.iload_n 1, 1) := by decide +kernel
theorem dX6_joined_174 : decode cX6_joined 174 = .ok (.iload_n 2, 1) := by decide +kernel
theorem dX6_joined_175 : decode cX6_joined 175 = .ok (.idiv, 1) := by decide +kernel
theorem dX6_joined_176 : decode cX6_joined 176 = .ok (.ireturn, 1) := by decide +kernel
theorem dX6_joined_177 : decode cX6_joined 177 = .ok (.iload_n 2, 1) := by decide +kernel
theorem dX6_joined_178 : decode cX6_joined 178 = .ok (.ifCond .ne 7, 3) := by decide +kernel
theorem dX6_joined_181 : decode cX6_joined 181 = .ok (.iconst 0, 1) := by decide +kernel
theorem dX6_joined_182 : decode cX6_joined 182 = .ok (.goto 6, 3) := by decide +kernel
theorem dX6_joined_185 : decode cX6_joined 185 = .ok (.iload_n 1, 1) := by decide +kernel
theorem dX6_joined_186 : decode cX6_joined 186 = .ok (.iload_n 2, 1) := by decide +kernel
theorem dX6_joined_187 : decode cX6_joined 187 = .ok (.irem, 1) := by decide +kernel
theorem dX6_joined_188 : decode cX6_joined 188 = .ok (.ireturn, 1) := by decide +kernel
theorem dX6_joined_189 : decode cX6_joined 189 = .ok (.iconst 0, 1) := by decide +kernel
theorem dX6_joined_190 : decode cX6_joined 190 = .ok (.ireturn, 1) := by decide +kernel
theorem dX7_init_0 : decode cX7_init 0 = .ok (.aload_n 0, 1) := by decide +kernel
theorem dX7_init_1 : decode cX7_init 1 = .ok (.invokespecial 1, 3) := by decide +kernel
theorem dX7_init_4 : decode cX7_init 4 = .ok (.aload_n 0, 1) := by decide +kernel
theorem dX7_init_5 : decode cX7_init 5 = .ok (.new 7, 3) := by decide +kernel
theorem dX7_init_8 : decode cX7_init 8 = .ok (.dup, 1) := by decide +kernel
theorem dX7_init_9 : decode cX7_init 9 = .ok (.bipush 30, 2) := by decide +kernel
theorem dX7_init_11 : decode cX7_init 11 = .ok (.invokespecial 11, 3) := by decide +kernel
theorem dX7_init_14 : decode cX7_init 14 = .ok (.putfield 14, 3) := by decide +kernel
theorem dX7_init_17 : decode cX7_init 17 = .ok (.aload_n 0, 1) := by decide +kernel
theorem dX7_init_18 : decode cX7_init 18 = .ok (.iconst 0, 1) := by decide +kernel
theorem dX7_init_19 : decode cX7_init 19 = .ok (.putfield 18, 3) := by decide +kernel
theorem dX7_init_22 : decode cX7_init 22 = .ok (.aload_n 0, 1) := by decide +kernel
theorem dX7_init_23 : decode cX7_init 23 = .ok (.iconst 0, 1) := by decide +kernel
theorem dX7_init_24 : decode cX7_init 24 = .ok (.putfield 22, 3) := by decide +kernel
theorem dX7_init_27 : decode cX7_init 27 = .ok (.aload_n 0, 1) := by decide +kernel
theorem dX7_init_28 : decode cX7_init 28 = .ok (.iconst 0, 1) := by decide +kernel
theorem dX7_init_29 : decode cX7_init 29 = .ok (.putfield 25, 3) := by decide +kernel
theorem dX7_init_32 : decode cX7_init 32 = .ok (.aload_n 0, 1) := by decide +kernel
theorem dX7_init_33 : decode cX7_init 33 = .ok (.iconst 0, 1) := by decide +kernel
theorem dX7_init_34 : decode cX7_init 34 = .ok (.putfield 28, 3) := by decide +kernel
theorem dX7_init_37 : decode cX7_init 37 = .ok (.return_, 1) := by decide +kernel
theorem dX7_isVoice_0 : decode cX7_isVoice 0 = .ok (.iload_n 0, 1) := by decide +kernel
theorem dX7_isVoice_1 : decode cX7_isVoice 1 = .ok (.ifCond .lt 12, 3) := by decide +kernel
theorem dX7_isVoice_4 : decode cX7_isVoice 4 = .ok (.iload_n 0, 1) := by decide +kernel
theorem dX7_isVoice_5 : decode cX7_isVoice 5 = .ok (.iconst 4, 1) := by decide +kernel
theorem dX7_isVoice_6 : decode cX7_isVoice 6 = .ok (.if_icmp .ge 7, 3) := by decide +kernel
theorem dX7_isVoice_9 : decode cX7_isVoice 9 = .ok (.iconst 1, 1) := by decide +kernel
theorem dX7_isVoice_10 : decode cX7_isVoice 10 = .ok (.goto 4, 3) := by decide +kernel
theorem dX7_isVoice_13 : decode cX7_isVoice 13 = .ok (.iconst 0, 1) := by decide +kernel
theorem dX7_isVoice_14 : decode cX7_isVoice 14 = .ok (.ireturn, 1) := by decide +kernel
theorem dX7_begin_0 : decode cX7_begin 0 = .ok (.aload_n 0, 1) := by decide +kernel
theorem dX7_begin_1 : decode cX7_begin 1 = .ok (.iload_n 1, 1) := by decide +kernel
theorem dX7_begin_2 : decode cX7_begin 2 = .ok (.putfield 18, 3) := by decide +kernel
theorem dX7_begin_5 : decode cX7_begin 5 = .ok (.aload_n 0, 1) := by decide +kernel
theorem dX7_begin_6 : decode cX7_begin 6 = .ok (.iload_n 2, 1) := by decide +kernel
theorem dX7_begin_7 : decode cX7_begin 7 = .ok (.putfield 22, 3) := by decide +kernel
theorem dX7_begin_10 : decode cX7_begin 10 = .ok (.aload_n 0, 1) := by decide +kernel
theorem dX7_begin_11 : decode cX7_begin 11 = .ok (.iload_n 3, 1) := by decide +kernel
theorem dX7_begin_12 : decode cX7_begin 12 = .ok (.putfield 25, 3) := by decide +kernel
theorem dX7_begin_15 : decode cX7_begin 15 = .ok (.aload_n 0, 1) := by decide +kernel
theorem dX7_begin_16 : decode cX7_begin 16 = .ok (.iconst 0, 1) := by decide +kernel
theorem dX7_begin_17 : decode cX7_begin 17 = .ok (.putfield 28, 3) := by decide +kernel
theorem dX7_begin_20 : decode cX7_begin 20 = .ok (.aload_n 0, 1) := by decide +kernel
theorem dX7_begin_21 : decode cX7_begin 21 = .ok (.getfield 14, 3) := by decide +kernel
theorem dX7_begin_24 : decode cX7_begin 24 = .ok (.invokevirtual 32, 3) := by decide +kernel
theorem dX7_begin_27 : decode cX7_begin 27 = .ok (.return_, 1) := by decide +kernel
theorem dX7_speak_0 : decode cX7_speak 0 = .ok (.aload_n 0, 1) := by decide +kernel
theorem dX7_speak_1 : decode cX7_speak 1 = .ok (.aload_n 0, 1) := by decide +kernel
theorem dX7_speak_2 : decode cX7_speak 2 = .ok (.getfield 18, 3) := by decide +kernel
theorem dX7_speak_5 : decode cX7_speak 5 = .ok (.iload_n 1, 1) := by decide +kernel
theorem dX7_speak_6 : decode cX7_speak 6 = .ok (.iload_n 2, 1) := by decide +kernel
theorem dX7_speak_7 : decode cX7_speak 7 = .ok (.iconst 0, 1) := by decide +kernel
theorem dX7_speak_8 : decode cX7_speak 8 = .ok (.invokevirtual 35, 3) := by decide +kernel
theorem dX7_speak_11 : decode cX7_speak 11 = .ok (.ireturn, 1) := by decide +kernel
theorem dX7_spoken_0 : decode cX7_spoken 0 = .ok (.iload_n 1, 1) := by decide +kernel
theorem dX7_spoken_1 : decode cX7_spoken 1 = .ok (.istore 5, 2) := by decide +kernel
theorem dX7_spoken_3 : decode cX7_spoken 3 = .ok (.iconst 0, 1) := by decide +kernel
theorem dX7_spoken_4 : decode cX7_spoken 4 = .ok (.istore 6, 2) := by decide +kernel
theorem dX7_spoken_6 : decode cX7_spoken 6 = .ok (.iload 6, 2) := by decide +kernel
theorem dX7_spoken_8 : decode cX7_spoken 8 = .ok (.bipush 40, 2) := by decide +kernel
theorem dX7_spoken_10 : decode cX7_spoken 10 = .ok (.if_icmp .ge 75, 3) := by decide +kernel
theorem dX7_spoken_13 : decode cX7_spoken 13 = .ok (.iload 5, 2) := by decide +kernel
theorem dX7_spoken_15 : decode cX7_spoken 15 = .ok (.invokestatic 39, 3) := by decide +kernel
theorem dX7_spoken_18 : decode cX7_spoken 18 = .ok (.ifCond .eq 67, 3) := by decide +kernel
theorem dX7_spoken_21 : decode cX7_spoken 21 = .ok (.getstatic 45, 3) := by decide +kernel
theorem dX7_spoken_24 : decode cX7_spoken 24 = .ok (.iload 5, 2) := by decide +kernel
theorem dX7_spoken_26 : decode cX7_spoken 26 = .ok (.iconst 4, 1) := by decide +kernel
theorem dX7_spoken_27 : decode cX7_spoken 27 = .ok (.imul, 1) := by decide +kernel
theorem dX7_spoken_28 : decode cX7_spoken 28 = .ok (.iload_n 2, 1) := by decide +kernel
theorem dX7_spoken_29 : decode cX7_spoken 29 = .ok (.iadd, 1) := by decide +kernel
theorem dX7_spoken_30 : decode cX7_spoken 30 = .ok (.iaload, 1) := by decide +kernel
theorem dX7_spoken_31 : decode cX7_spoken 31 = .ok (.istore 7, 2) := by decide +kernel
theorem dX7_spoken_33 : decode cX7_spoken 33 = .ok (.iload 7, 2) := by decide +kernel
theorem dX7_spoken_35 : decode cX7_spoken 35 = .ok (.ifCond .eq 37, 3) := by decide +kernel
theorem dX7_spoken_38 : decode cX7_spoken 38 = .ok (.aload_n 0, 1) := by decide +kernel
theorem dX7_spoken_39 : decode cX7_spoken 39 = .ok (.getfield 14, 3) := by decide +kernel
theorem dX7_spoken_42 : decode cX7_spoken 42 = .ok (.iload 7, 2) := by decide +kernel
theorem dX7_spoken_44 : decode cX7_spoken 44 = .ok (.invokevirtual 49, 3) := by decide +kernel
theorem dX7_spoken_47 : decode cX7_spoken 47 = .ok (.iload 4, 2) := by decide +kernel
theorem dX7_spoken_49 : decode cX7_spoken 49 = .ok (.bipush 40, 2) := by decide +kernel
theorem dX7_spoken_51 : decode cX7_spoken 51 = .ok (.if_icmp .ge 19, 3) := by decide +kernel
theorem dX7_spoken_54 : decode cX7_spoken 54 = .ok (.aload_n 0, 1) := by decide +kernel
theorem dX7_spoken_55 : decode cX7_spoken 55 = .ok (.iload 7, 2) := by decide +kernel
theorem dX7_spoken_57 : decode cX7_spoken 57 = .ok (.iload 5, 2) := by decide +kernel
theorem dX7_spoken_59 : decode cX7_spoken 59 = .ok (.iload_n 3, 1) := by decide +kernel
theorem dX7_spoken_60 : decode cX7_spoken 60 = .ok (.iload 4, 2) := by decide +kernel
theorem dX7_spoken_62 : decode cX7_spoken 62 = .ok (.iconst 1, 1) := by decide +kernel
theorem dX7_spoken_63 : decode cX7_spoken 63 = .ok (.iadd, 1) := by decide +kernel
theorem dX7_spoken_64 : decode cX7_spoken 64 = .ok (.invokevirtual 52, 3) := by decide +kernel
theorem dX7_spoken_67 : decode cX7_spoken 67 = .ok (.goto 4, 3) := by decide +kernel
theorem dX7_spoken_70 : decode cX7_spoken 70 = .ok (.iconst 0, 1) := by decide +kernel
theorem dX7_spoken_71 : decode cX7_spoken 71 = .ok (.ireturn, 1) := by decide +kernel
theorem dX7_spoken_72 : decode cX7_spoken 72 = .ok (.iload 5, 2) := by decide +kernel
theorem dX7_spoken_74 : decode cX7_spoken 74 = .ok (.invokestatic 55, 3) := by decide +kernel
theorem dX7_spoken_77 : decode cX7_spoken 77 = .ok (.istore 5, 2) := by decide +kernel
theorem dX7_spoken_79 : decode cX7_spoken 79 = .ok (.iinc 6 1, 3) := by decide +kernel
theorem dX7_spoken_82 : decode cX7_spoken 82 = .ok (.goto (-76), 3) := by decide +kernel
theorem dX7_spoken_85 : decode cX7_spoken 85 = .ok (.iconst 0, 1) := by decide +kernel
theorem dX7_spoken_86 : decode cX7_spoken 86 = .ok (.ireturn, 1) := by decide +kernel
theorem dX7_own_0 : decode cX7_own 0 = .ok (.aload_n 0, 1) := by decide +kernel
theorem dX7_own_1 : decode cX7_own 1 = .ok (.aload_n 0, 1) := by decide +kernel
theorem dX7_own_2 : decode cX7_own 2 = .ok (.getfield 18, 3) := by decide +kernel
theorem dX7_own_5 : decode cX7_own 5 = .ok (.iload_n 1, 1) := by decide +kernel
theorem dX7_own_6 : decode cX7_own 6 = .ok (.iload_n 2, 1) := by decide +kernel
theorem dX7_own_7 : decode cX7_own 7 = .ok (.iload_n 3, 1) := by decide +kernel
theorem dX7_own_8 : decode cX7_own 8 = .ok (.invokevirtual 35, 3) := by decide +kernel
theorem dX7_own_11 : decode cX7_own 11 = .ok (.ireturn, 1) := by decide +kernel
theorem dX7_worked_0 : decode cX7_worked 0 = .ok (.iload_n 2, 1) := by decide +kernel
theorem dX7_worked_1 : decode cX7_worked 1 = .ok (.invokestatic 55, 3) := by decide +kernel
theorem dX7_worked_4 : decode cX7_worked 4 = .ok (.istore 5, 2) := by decide +kernel
theorem dX7_worked_6 : decode cX7_worked 6 = .ok (.iload_n 1, 1) := by decide +kernel
theorem dX7_worked_7 : decode cX7_worked 7 = .ok (.lookupswitch 270 #[(10, 113), (11, 120), (12, 131), (13, 145), (20, 160), (21, 173), (30, 183), (40, 196), (50, 209), (51, 222), (60, 238), (70, 251), (71, 254)], 113) := by decide +kernel
theorem dX7_worked_120 : decode cX7_worked 120 = .ok (.iload_n 3, 1) := by decide +kernel
theorem dX7_worked_121 : decode cX7_worked 121 = .ok (.aload_n 0, 1) := by decide +kernel
theorem dX7_worked_122 : decode cX7_worked 122 = .ok (.getfield 22, 3) := by decide +kernel
theorem dX7_worked_125 : decode cX7_worked 125 = .ok (.iadd, 1) := by decide +kernel
theorem dX7_worked_126 : decode cX7_worked 126 = .ok (.ireturn, 1) := by decide +kernel
theorem dX7_worked_127 : decode cX7_worked 127 = .ok (.aload_n 0, 1) := by decide +kernel
theorem dX7_worked_128 : decode cX7_worked 128 = .ok (.iconst 0, 1) := by decide +kernel
theorem dX7_worked_129 : decode cX7_worked 129 = .ok (.iload_n 3, 1) := by decide +kernel
theorem dX7_worked_130 : decode cX7_worked 130 = .ok (.iload 4, 2) := by decide +kernel
theorem dX7_worked_132 : decode cX7_worked 132 = .ok (.invokevirtual 59, 3) := by decide +kernel
theorem dX7_worked_135 : decode cX7_worked 135 = .ok (.iconst 2, 1) := by decide +kernel
theorem dX7_worked_136 : decode cX7_worked 136 = .ok (.imul, 1) := by decide +kernel
theorem dX7_worked_137 : decode cX7_worked 137 = .ok (.ireturn, 1) := by decide +kernel
theorem dX7_worked_138 : decode cX7_worked 138 = .ok (.aload_n 0, 1) := by decide +kernel
theorem dX7_worked_139 : decode cX7_worked 139 = .ok (.iconst 1, 1) := by decide +kernel
theorem dX7_worked_140 : decode cX7_worked 140 = .ok (.iload_n 3, 1) := by decide +kernel
theorem dX7_worked_141 : decode cX7_worked 141 = .ok (.iload 4, 2) := by decide +kernel
theorem dX7_worked_143 : decode cX7_worked 143 = .ok (.invokevirtual 59, 3) := by decide +kernel
theorem dX7_worked_146 : decode cX7_worked 146 = .ok (.aload_n 0, 1) := by decide +kernel
theorem dX7_worked_147 : decode cX7_worked 147 = .ok (.getfield 25, 3) := by decide +kernel
theorem dX7_worked_150 : decode cX7_worked 150 = .ok (.isub, 1) := by decide +kernel
theorem dX7_worked_151 : decode cX7_worked 151 = .ok (.ireturn, 1) := by decide +kernel
theorem dX7_worked_152 : decode cX7_worked 152 = .ok (.aload_n 0, 1) := by decide +kernel
theorem dX7_worked_153 : decode cX7_worked 153 = .ok (.iload_n 3, 1) := by decide +kernel
theorem dX7_worked_154 : decode cX7_worked 154 = .ok (.aload_n 0, 1) := by decide +kernel
theorem dX7_worked_155 : decode cX7_worked 155 = .ok (.getfield 25, 3) := by decide +kernel
theorem dX7_worked_158 : decode cX7_worked 158 = .ok (.aload_n 0, 1) := by decide +kernel
theorem dX7_worked_159 : decode cX7_worked 159 = .ok (.getfield 22, 3) := by decide +kernel
theorem dX7_worked_162 : decode cX7_worked 162 = .ok (.isub, 1) := by decide +kernel
theorem dX7_worked_163 : decode cX7_worked 163 = .ok (.invokevirtual 63, 3) := by decide +kernel
theorem dX7_worked_166 : decode cX7_worked 166 = .ok (.ireturn, 1) := by decide +kernel
theorem dX7_worked_167 : decode cX7_worked 167 = .ok (.aload_n 0, 1) := by decide +kernel
theorem dX7_worked_168 : decode cX7_worked 168 = .ok (.iload 5, 2) := by decide +kernel
theorem dX7_worked_170 : decode cX7_worked 170 = .ok (.iconst 0, 1) := by decide +kernel
theorem dX7_worked_171 : decode cX7_worked 171 = .ok (.iload_n 3, 1) := by decide +kernel
theorem dX7_worked_172 : decode cX7_worked 172 = .ok (.iload 4, 2) := by decide +kernel
theorem dX7_worked_174 : decode cX7_worked 174 = .ok (.invokevirtual 35, 3) := by decide +kernel
theorem dX7_worked_177 : decode cX7_worked 177 = .ok (.iconst 4, 1) := by decide +kernel
theorem dX7_worked_178 : decode cX7_worked 178 = .ok (.isub, 1) := by decide +kernel
theorem dX7_worked_179 : decode cX7_worked 179 = .ok (.ireturn, 1) := by decide +kernel
theorem dX7_worked_180 : decode cX7_worked 180 = .ok (.aload_n 0, 1) := by decide +kernel
theorem dX7_worked_181 : decode cX7_worked 181 = .ok (.iload 5, 2) := by decide +kernel
theorem dX7_worked_183 : decode cX7_worked 183 = .ok (.iload_n 3, 1) := by decide +kernel
theorem dX7_worked_184 : decode cX7_worked 184 = .ok (.iload 4, 2) := by decide +kernel
theorem dX7_worked_186 : decode cX7_worked 186 = .ok (.invokevirtual 67, 3) := by decide +kernel
theorem dX7_worked_189 : decode cX7_worked 189 = .ok (.ireturn, 1) := by decide +kernel
theorem dX7_worked_190 : decode cX7_worked 190 = .ok (.iconst 0, 1) := by decide +kernel
theorem dX7_worked_191 : decode cX7_worked 191 = .ok (.aload_n 0, 1) := by decide +kernel
theorem dX7_worked_192 : decode cX7_worked 192 = .ok (.iload 5, 2) := by decide +kernel
theorem dX7_worked_194 : decode cX7_worked 194 = .ok (.iconst 1, 1) := by decide +kernel
theorem dX7_worked_195 : decode cX7_worked 195 = .ok (.iload_n 3, 1) := by decide +kernel
theorem dX7_worked_196 : decode cX7_worked 196 = .ok (.iload 4, 2) := by decide +kernel
theorem dX7_worked_198 : decode cX7_worked 198 = .ok (.invokevirtual 35, 3) := by decide +kernel
theorem dX7_worked_201 : decode cX7_worked 201 = .ok (.isub, 1) := by decide +kernel
theorem dX7_worked_202 : decode cX7_worked 202 = .ok (.ireturn, 1) := by decide +kernel
theorem dX7_worked_203 : decode cX7_worked 203 = .ok (.aload_n 0, 1) := by decide +kernel
theorem dX7_worked_204 : decode cX7_worked 204 = .ok (.iload 5, 2) := by decide +kernel
theorem dX7_worked_206 : decode cX7_worked 206 = .ok (.iconst 2, 1) := by decide +kernel
theorem dX7_worked_207 : decode cX7_worked 207 = .ok (.iload_n 3, 1) := by decide +kernel
theorem dX7_worked_208 : decode cX7_worked 208 = .ok (.iconst 2, 1) := by decide +kernel
theorem dX7_worked_209 : decode cX7_worked 209 = .ok (.idiv, 1) := by decide +kernel
theorem dX7_worked_210 : decode cX7_worked 210 = .ok (.iload 4, 2) := by decide +kernel
theorem dX7_worked_212 : decode cX7_worked 212 = .ok (.invokevirtual 35, 3) := by decide +kernel
theorem dX7_worked_215 : decode cX7_worked 215 = .ok (.ireturn, 1) := by decide +kernel
theorem dX7_worked_216 : decode cX7_worked 216 = .ok (.aload_n 0, 1) := by decide +kernel
theorem dX7_worked_217 : decode cX7_worked 217 = .ok (.iload 5, 2) := by decide +kernel
theorem dX7_worked_219 : decode cX7_worked 219 = .ok (.iconst 0, 1) := by decide +kernel
theorem dX7_worked_220 : decode cX7_worked 220 = .ok (.iload_n 3, 1) := by decide +kernel
theorem dX7_worked_221 : decode cX7_worked 221 = .ok (.iload 4, 2) := by decide +kernel
theorem dX7_worked_223 : decode cX7_worked 223 = .ok (.invokevirtual 35, 3) := by decide +kernel
theorem dX7_worked_226 : decode cX7_worked 226 = .ok (.iconst 3, 1) := by decide +kernel
theorem dX7_worked_227 : decode cX7_worked 227 = .ok (.imul, 1) := by decide +kernel
theorem dX7_worked_228 : decode cX7_worked 228 = .ok (.ireturn, 1) := by decide +kernel
theorem dX7_worked_229 : decode cX7_worked 229 = .ok (.aload_n 0, 1) := by decide +kernel
theorem dX7_worked_230 : decode cX7_worked 230 = .ok (.iload 5, 2) := by decide +kernel
theorem dX7_worked_232 : decode cX7_worked 232 = .ok (.iconst 2, 1) := by decide +kernel
theorem dX7_worked_233 : decode cX7_worked 233 = .ok (.iload_n 3, 1) := by decide +kernel
theorem dX7_worked_234 : decode cX7_worked 234 = .ok (.iload 4, 2) := by decide +kernel
theorem dX7_worked_236 : decode cX7_worked 236 = .ok (.invokevirtual 35, 3) := by decide +kernel
theorem dX7_worked_239 : decode cX7_worked 239 = .ok (.aload_n 0, 1) := by decide +kernel
theorem dX7_worked_240 : decode cX7_worked 240 = .ok (.getfield 22, 3) := by decide +kernel
theorem dX7_worked_243 : decode cX7_worked 243 = .ok (.ixor, 1) := by decide +kernel
theorem dX7_worked_244 : decode cX7_worked 244 = .ok (.ireturn, 1) := by decide +kernel
theorem dX7_worked_245 : decode cX7_worked 245 = .ok (.aload_n 0, 1) := by decide +kernel
theorem dX7_worked_246 : decode cX7_worked 246 = .ok (.iload 5, 2) := by decide +kernel
theorem dX7_worked_248 : decode cX7_worked 248 = .ok (.iconst 1, 1) := by decide +kernel
theorem dX7_worked_249 : decode cX7_worked 249 = .ok (.iload_n 3, 1) := by decide +kernel
theorem dX7_worked_250 : decode cX7_worked 250 = .ok (.iconst 1, 1) := by decide +kernel
theorem dX7_worked_251 : decode cX7_worked 251 = .ok (.iadd, 1) := by decide +kernel
theorem dX7_worked_252 : decode cX7_worked 252 = .ok (.iload 4, 2) := by decide +kernel
theorem dX7_worked_254 : decode cX7_worked 254 = .ok (.invokevirtual 35, 3) := by decide +kernel
theorem dX7_worked_257 : decode cX7_worked 257 = .ok (.ireturn, 1) := by decide +kernel
theorem dX7_worked_258 : decode cX7_worked 258 = .ok (.bipush 9, 2) := by decide +kernel
theorem dX7_worked_260 : decode cX7_worked 260 = .ok (.ireturn, 1) := by decide +kernel
theorem dX7_worked_261 : decode cX7_worked 261 = .ok (.aload_n 0, 1) := by decide +kernel
theorem dX7_worked_262 : decode cX7_worked 262 = .ok (.iload 5, 2) := by decide +kernel
theorem dX7_worked_264 : decode cX7_worked 264 = .ok (.iconst 1, 1) := by decide +kernel
theorem dX7_worked_265 : decode cX7_worked 265 = .ok (.iload_n 3, 1) := by decide +kernel
theorem dX7_worked_266 : decode cX7_worked 266 = .ok (.iload 4, 2) := by decide +kernel
theorem dX7_worked_268 : decode cX7_worked 268 = .ok (.invokevirtual 35, 3) := by decide +kernel
theorem dX7_worked_271 : decode cX7_worked 271 = .ok (.aload_n 0, 1) := by decide +kernel
theorem dX7_worked_272 : decode cX7_worked 272 = .ok (.getfield 25, 3) := by decide +kernel
theorem dX7_worked_275 : decode cX7_worked 275 = .ok (.iadd, 1) := by decide +kernel
theorem dX7_worked_276 : decode cX7_worked 276 = .ok (.ireturn, 1) := by decide +kernel
theorem dX7_worked_277 : decode cX7_worked 277 = .ok (.iconst 0, 1) := by decide +kernel
theorem dX7_worked_278 : decode cX7_worked 278 = .ok (.ireturn, 1) := by decide +kernel
theorem dX7_partsBy_0 : decode cX7_partsBy 0 = .ok (.iload_n 2, 1) := by decide +kernel
theorem dX7_partsBy_1 : decode cX7_partsBy 1 = .ok (.ifCond .ne 10, 3) := by decide +kernel
theorem dX7_partsBy_4 : decode cX7_partsBy 4 = .ok (.aload_n 0, 1) := by decide +kernel
theorem dX7_partsBy_5 : decode cX7_partsBy 5 = .ok (.iconst 1, 1) := by decide +kernel
theorem dX7_partsBy_6 : decode cX7_partsBy 6 = .ok (.putfield 28, 3) := by decide +kernel
theorem dX7_partsBy_9 : decode cX7_partsBy 9 = .ok (.iconst 0, 1) := by decide +kernel
theorem dX7_partsBy_10 : decode cX7_partsBy 10 = .ok (.ireturn, 1) := by decide +kernel
theorem dX7_partsBy_11 : decode cX7_partsBy 11 = .ok (.iload_n 1, 1) := by decide +kernel
theorem dX7_partsBy_12 : decode cX7_partsBy 12 = .ok (.iload_n 2, 1) := by decide +kernel
theorem dX7_partsBy_13 : decode cX7_partsBy 13 = .ok (.idiv, 1) := by decide +kernel
theorem dX7_partsBy_14 : decode cX7_partsBy 14 = .ok (.ireturn, 1) := by decide +kernel
theorem dX7_heiressParts_0 : decode cX7_heiressParts 0 = .ok (.aload_n 0, 1) := by decide +kernel
theorem dX7_heiressParts_1 : decode cX7_heiressParts 1 = .ok (.iload_n 1, 1) := by decide +kernel
theorem dX7_heiressParts_2 : decode cX7_heiressParts 2 = .ok (.iconst 3, 1) := by decide +kernel
theorem dX7_heiressParts_3 : decode cX7_heiressParts 3 = .ok (.iload_n 2, 1) := by decide +kernel
theorem dX7_heiressParts_4 : decode cX7_heiressParts 4 = .ok (.iload_n 3, 1) := by decide +kernel
theorem dX7_heiressParts_5 : decode cX7_heiressParts 5 = .ok (.invokevirtual 35, 3) := by decide +kernel
theorem dX7_heiressParts_8 : decode cX7_heiressParts 8 = .ok (.istore 4, 2) := by decide +kernel
theorem dX7_heiressParts_10 : decode cX7_heiressParts 10 = .ok (.aload_n 0, 1) := by decide +kernel
theorem dX7_heiressParts_11 : decode cX7_heiressParts 11 = .ok (.getfield 28, 3) := by decide +kernel
theorem dX7_heiressParts_14 : decode cX7_heiressParts 14 = .ok (.ifCond .eq 7, 3) := by decide +kernel
theorem dX7_heiressParts_17 : decode cX7_heiressParts 17 = .ok (.iconst 0, 1) := by decide +kernel
theorem dX7_heiressParts_18 : decode cX7_heiressParts 18 = .ok (.goto 13, 3) := by decide +kernel
theorem dX7_heiressParts_21 : decode cX7_heiressParts 21 = .ok (.iload 4, 2) := by decide +kernel
theorem dX7_heiressParts_23 : decode cX7_heiressParts 23 = .ok (.aload_n 0, 1) := by decide +kernel
theorem dX7_heiressParts_24 : decode cX7_heiressParts 24 = .ok (.iconst 1, 1) := by decide +kernel
theorem dX7_heiressParts_25 : decode cX7_heiressParts 25 = .ok (.iconst 1, 1) := by decide +kernel
theorem dX7_heiressParts_26 : decode cX7_heiressParts 26 = .ok (.iload_n 3, 1) := by decide +kernel
theorem dX7_heiressParts_27 : decode cX7_heiressParts 27 = .ok (.invokevirtual 59, 3) := by decide +kernel
theorem dX7_heiressParts_30 : decode cX7_heiressParts 30 = .ok (.iadd, 1) := by decide +kernel
theorem dX7_heiressParts_31 : decode cX7_heiressParts 31 = .ok (.ireturn, 1) := by decide +kernel
theorem dX8_init_0 : decode cX8_init 0 = .ok (.aload_n 0, 1) := by decide +kernel
theorem dX8_init_1 : decode cX8_init 1 = .ok (.invokespecial 3, 3) := by decide +kernel
theorem dX8_init_4 : decode cX8_init 4 = .ok (.aload_n 0, 1) := by decide +kernel
theorem dX8_init_5 : decode cX8_init 5 = .ok (.new 9, 3) := by decide +kernel
theorem dX8_init_8 : decode cX8_init 8 = .ok (.dup, 1) := by decide +kernel
theorem dX8_init_9 : decode cX8_init 9 = .ok (.invokespecial 11, 3) := by decide +kernel
theorem dX8_init_12 : decode cX8_init 12 = .ok (.putfield 12, 3) := by decide +kernel
theorem dX8_init_15 : decode cX8_init 15 = .ok (.aload_n 0, 1) := by decide +kernel
theorem dX8_init_16 : decode cX8_init 16 = .ok (.new 18, 3) := by decide +kernel
theorem dX8_init_19 : decode cX8_init 19 = .ok (.dup, 1) := by decide +kernel
theorem dX8_init_20 : decode cX8_init 20 = .ok (.invokespecial 20, 3) := by decide +kernel
theorem dX8_init_23 : decode cX8_init 23 = .ok (.putfield 21, 3) := by decide +kernel
theorem dX8_init_26 : decode cX8_init 26 = .ok (.aload_n 0, 1) := by decide +kernel
theorem dX8_init_27 : decode cX8_init 27 = .ok (.bipush 6, 2) := by decide +kernel
theorem dX8_init_29 : decode cX8_init 29 = .ok (.newarray .int, 2) := by decide +kernel
theorem dX8_init_31 : decode cX8_init 31 = .ok (.putfield 25, 3) := by decide +kernel
theorem dX8_init_34 : decode cX8_init 34 = .ok (.aload_n 0, 1) := by decide +kernel
theorem dX8_init_35 : decode cX8_init 35 = .ok (.bipush 6, 2) := by decide +kernel
theorem dX8_init_37 : decode cX8_init 37 = .ok (.newarray .int, 2) := by decide +kernel
theorem dX8_init_39 : decode cX8_init 39 = .ok (.putfield 29, 3) := by decide +kernel
theorem dX8_init_42 : decode cX8_init 42 = .ok (.iconst 0, 1) := by decide +kernel
theorem dX8_init_43 : decode cX8_init 43 = .ok (.istore_n 1, 1) := by decide +kernel
theorem dX8_init_44 : decode cX8_init 44 = .ok (.iload_n 1, 1) := by decide +kernel
theorem dX8_init_45 : decode cX8_init 45 = .ok (.bipush 6, 2) := by decide +kernel
theorem dX8_init_47 : decode cX8_init 47 = .ok (.if_icmp .ge 16, 3) := by decide +kernel
theorem dX8_init_50 : decode cX8_init 50 = .ok (.aload_n 0, 1) := by decide +kernel
theorem dX8_init_51 : decode cX8_init 51 = .ok (.getfield 29, 3) := by decide +kernel
theorem dX8_init_54 : decode cX8_init 54 = .ok (.iload_n 1, 1) := by decide +kernel
theorem dX8_init_55 : decode cX8_init 55 = .ok (.iconst 1, 1) := by decide +kernel
theorem dX8_init_56 : decode cX8_init 56 = .ok (.iastore, 1) := by decide +kernel
theorem dX8_init_57 : decode cX8_init 57 = .ok (.iinc 1 1, 3) := by decide +kernel
theorem dX8_init_60 : decode cX8_init 60 = .ok (.goto (-16), 3) := by decide +kernel
theorem dX8_init_63 : decode cX8_init 63 = .ok (.aload_n 0, 1) := by decide +kernel
theorem dX8_init_64 : decode cX8_init 64 = .ok (.iconst 2, 1) := by decide +kernel
theorem dX8_init_65 : decode cX8_init 65 = .ok (.anewarray 32, 3) := by decide +kernel
theorem dX8_init_68 : decode cX8_init 68 = .ok (.putfield 34, 3) := by decide +kernel
theorem dX8_init_71 : decode cX8_init 71 = .ok (.iconst 0, 1) := by decide +kernel
theorem dX8_init_72 : decode cX8_init 72 = .ok (.istore_n 1, 1) := by decide +kernel
theorem dX8_init_73 : decode cX8_init 73 = .ok (.iload_n 1, 1) := by decide +kernel
theorem dX8_init_74 : decode cX8_init 74 = .ok (.iconst 2, 1) := by decide +kernel
theorem dX8_init_75 : decode cX8_init 75 = .ok (.if_icmp .ge 22, 3) := by decide +kernel
theorem dX8_init_78 : decode cX8_init 78 = .ok (.aload_n 0, 1) := by decide +kernel
theorem dX8_init_79 : decode cX8_init 79 = .ok (.getfield 34, 3) := by decide +kernel
theorem dX8_init_82 : decode cX8_init 82 = .ok (.iload_n 1, 1) := by decide +kernel
theorem dX8_init_83 : decode cX8_init 83 = .ok (.new 32, 3) := by decide +kernel
theorem dX8_init_86 : decode cX8_init 86 = .ok (.dup, 1) := by decide +kernel
theorem dX8_init_87 : decode cX8_init 87 = .ok (.invokespecial 38, 3) := by decide +kernel
theorem dX8_init_90 : decode cX8_init 90 = .ok (.aastore, 1) := by decide +kernel
theorem dX8_init_91 : decode cX8_init 91 = .ok (.iinc 1 1, 3) := by decide +kernel
theorem dX8_init_94 : decode cX8_init 94 = .ok (.goto (-21), 3) := by decide +kernel
theorem dX8_init_97 : decode cX8_init 97 = .ok (.aload_n 0, 1) := by decide +kernel
theorem dX8_init_98 : decode cX8_init 98 = .ok (.new 39, 3) := by decide +kernel
theorem dX8_init_101 : decode cX8_init 101 = .ok (.dup, 1) := by decide +kernel
theorem dX8_init_102 : decode cX8_init 102 = .ok (.bipush 60, 2) := by decide +kernel
theorem dX8_init_104 : decode cX8_init 104 = .ok (.invokespecial 41, 3) := by decide +kernel
theorem dX8_init_107 : decode cX8_init 107 = .ok (.putfield 44, 3) := by decide +kernel
theorem dX8_init_110 : decode cX8_init 110 = .ok (.aload_n 0, 1) := by decide +kernel
theorem dX8_init_111 : decode cX8_init 111 = .ok (.new 39, 3) := by decide +kernel
theorem dX8_init_114 : decode cX8_init 114 = .ok (.dup, 1) := by decide +kernel
theorem dX8_init_115 : decode cX8_init 115 = .ok (.bipush 24, 2) := by decide +kernel
theorem dX8_init_117 : decode cX8_init 117 = .ok (.invokespecial 41, 3) := by decide +kernel
theorem dX8_init_120 : decode cX8_init 120 = .ok (.putfield 48, 3) := by decide +kernel
theorem dX8_init_123 : decode cX8_init 123 = .ok (.aload_n 0, 1) := by decide +kernel
theorem dX8_init_124 : decode cX8_init 124 = .ok (.iconst 1, 1) := by decide +kernel
theorem dX8_init_125 : decode cX8_init 125 = .ok (.putfield 51, 3) := by decide +kernel
theorem dX8_init_128 : decode cX8_init 128 = .ok (.return_, 1) := by decide +kernel
theorem dX8_gives_0 : decode cX8_gives 0 = .ok (.aload_n 0, 1) := by decide +kernel
theorem dX8_gives_1 : decode cX8_gives 1 = .ok (.getfield 34, 3) := by decide +kernel
theorem dX8_gives_4 : decode cX8_gives 4 = .ok (.iload_n 1, 1) := by decide +kernel
theorem dX8_gives_5 : decode cX8_gives 5 = .ok (.aaload, 1) := by decide +kernel
theorem dX8_gives_6 : decode cX8_gives 6 = .ok (.invokevirtual 55, 3) := by decide +kernel
theorem dX8_gives_9 : decode cX8_gives 9 = .ok (.ifCond .eq 19, 3) := by decide +kernel
theorem dX8_gives_12 : decode cX8_gives 12 = .ok (.aload_n 0, 1) := by decide +kernel
theorem dX8_gives_13 : decode cX8_gives 13 = .ok (.getfield 34, 3) := by decide +kernel
theorem dX8_gives_16 : decode cX8_gives 16 = .ok (.iload_n 1, 1) := by decide +kernel
theorem dX8_gives_17 : decode cX8_gives 17 = .ok (.aaload, 1) := by decide +kernel
theorem dX8_gives_18 : decode cX8_gives 18 = .ok (.iload_n 2, 1) := by decide +kernel
theorem dX8_gives_19 : decode cX8_gives 19 = .ok (.iload_n 3, 1) := by decide +kernel
theorem dX8_gives_20 : decode cX8_gives 20 = .ok (.iload 4, 2) := by decide +kernel
theorem dX8_gives_22 : decode cX8_gives 22 = .ok (.invokevirtual 59, 3) := by decide +kernel
theorem dX8_gives_25 : decode cX8_gives 25 = .ok (.goto 4, 3) := by decide +kernel
theorem dX8_gives_28 : decode cX8_gives 28 = .ok (.iload_n 2, 1) := by decide +kernel
theorem dX8_gives_29 : decode cX8_gives 29 = .ok (.istore 5, 2) := by decide +kernel
theorem dX8_gives_31 : decode cX8_gives 31 = .ok (.iconst 0, 1) := by decide +kernel
theorem dX8_gives_32 : decode cX8_gives 32 = .ok (.iload 5, 2) := by decide +kernel
theorem dX8_gives_34 : decode cX8_gives 34 = .ok (.bipush 40, 2) := by decide +kernel
theorem dX8_gives_36 : decode cX8_gives 36 = .ok (.invokestatic 63, 3) := by decide +kernel
theorem dX8_gives_39 : decode cX8_gives 39 = .ok (.invokestatic 69, 3) := by decide +kernel
theorem dX8_gives_42 : decode cX8_gives 42 = .ok (.ireturn, 1) := by decide +kernel
theorem dX8_veilsOf_0 : decode cX8_veilsOf 0 = .ok (.aload_n 0, 1) := by decide +kernel
theorem dX8_veilsOf_1 : decode cX8_veilsOf 1 = .ok (.getfield 12, 3) := by decide +kernel
theorem dX8_veilsOf_4 : decode cX8_veilsOf 4 = .ok (.iload_n 1, 1) := by decide +kernel
theorem dX8_veilsOf_5 : decode cX8_veilsOf 5 = .ok (.iload_n 2, 1) := by decide +kernel
theorem dX8_veilsOf_6 : decode cX8_veilsOf 6 = .ok (.invokevirtual 72, 3) := by decide +kernel
theorem dX8_veilsOf_9 : decode cX8_veilsOf 9 = .ok (.istore 4, 2) := by decide +kernel
theorem dX8_veilsOf_11 : decode cX8_veilsOf 11 = .ok (.aload_n 0, 1) := by decide +kernel
theorem dX8_veilsOf_12 : decode cX8_veilsOf 12 = .ok (.getfield 12, 3) := by decide +kernel
theorem dX8_veilsOf_15 : decode cX8_veilsOf 15 = .ok (.getfield 75, 3) := by decide +kernel
theorem dX8_veilsOf_18 : decode cX8_veilsOf 18 = .ok (.iload_n 1, 1) := by decide +kernel
theorem dX8_veilsOf_19 : decode cX8_veilsOf 19 = .ok (.iaload, 1) := by decide +kernel
theorem dX8_veilsOf_20 : decode cX8_veilsOf 20 = .ok (.aload_n 0, 1) := by decide +kernel
theorem dX8_veilsOf_21 : decode cX8_veilsOf 21 = .ok (.getfield 12, 3) := by decide +kernel
theorem dX8_veilsOf_24 : decode cX8_veilsOf 24 = .ok (.getfield 78, 3) := by decide +kernel
theorem dX8_veilsOf_27 : decode cX8_veilsOf 27 = .ok (.iload_n 1, 1) := by decide +kernel
theorem dX8_veilsOf_28 : decode cX8_veilsOf 28 = .ok (.iaload, 1) := by decide +kernel
theorem dX8_veilsOf_29 : decode cX8_veilsOf 29 = .ok (.iload 4, 2) := by decide +kernel
theorem dX8_veilsOf_31 : decode cX8_veilsOf 31 = .ok (.invokestatic 81, 3) := by decide +kernel
theorem dX8_veilsOf_34 : decode cX8_veilsOf 34 = .ok (.istore 5, 2) := by decide +kernel
theorem dX8_veilsOf_36 : decode cX8_veilsOf 36 = .ok (.aload_n 0, 1) := by decide +kernel
theorem dX8_veilsOf_37 : decode cX8_veilsOf 37 = .ok (.iconst 0, 1) := by decide +kernel
theorem dX8_veilsOf_38 : decode cX8_veilsOf 38 = .ok (.iload 5, 2) := by decide +kernel
theorem dX8_veilsOf_40 : decode cX8_veilsOf 40 = .ok (.iload 4, 2) := by decide +kernel
theorem dX8_veilsOf_42 : decode cX8_veilsOf 42 = .ok (.aload_n 3, 1) := by decide +kernel
theorem dX8_veilsOf_43 : decode cX8_veilsOf 43 = .ok (.getfield 86, 3) := by decide +kernel
theorem dX8_veilsOf_46 : decode cX8_veilsOf 46 = .ok (.bipush 8, 2) := by decide +kernel
theorem dX8_veilsOf_48 : decode cX8_veilsOf 48 = .ok (.irem, 1) := by decide +kernel
theorem dX8_veilsOf_49 : decode cX8_veilsOf 49 = .ok (.invokevirtual 89, 3) := by decide +kernel
theorem dX8_veilsOf_52 : decode cX8_veilsOf 52 = .ok (.ireturn, 1) := by decide +kernel
theorem dX8_sightOf_0 : decode cX8_sightOf 0 = .ok (.aload_n 0, 1) := by decide +kernel
theorem dX8_sightOf_1 : decode cX8_sightOf 1 = .ok (.getfield 12, 3) := by decide +kernel
theorem dX8_sightOf_4 : decode cX8_sightOf 4 = .ok (.getfield 75, 3) := by decide +kernel
theorem dX8_sightOf_7 : decode cX8_sightOf 7 = .ok (.iload_n 1, 1) := by decide +kernel
theorem dX8_sightOf_8 : decode cX8_sightOf 8 = .ok (.iaload, 1) := by decide +kernel
theorem dX8_sightOf_9 : decode cX8_sightOf 9 = .ok (.aload_n 0, 1) := by decide +kernel
theorem dX8_sightOf_10 : decode cX8_sightOf 10 = .ok (.getfield 12, 3) := by decide +kernel
theorem dX8_sightOf_13 : decode cX8_sightOf 13 = .ok (.getfield 78, 3) := by decide +kernel
theorem dX8_sightOf_16 : decode cX8_sightOf 16 = .ok (.iload_n 1, 1) := by decide +kernel
theorem dX8_sightOf_17 : decode cX8_sightOf 17 = .ok (.iaload, 1) := by decide +kernel
theorem dX8_sightOf_18 : decode cX8_sightOf 18 = .ok (.aload_n 0, 1) := by decide +kernel
theorem dX8_sightOf_19 : decode cX8_sightOf 19 = .ok (.getfield 12, 3) := by decide +kernel
theorem dX8_sightOf_22 : decode cX8_sightOf 22 = .ok (.iload_n 1, 1) := by decide +kernel
theorem dX8_sightOf_23 : decode cX8_sightOf 23 = .ok (.invokevirtual 93, 3) := by decide +kernel
theorem dX8_sightOf_26 : decode cX8_sightOf 26 = .ok (.aload_n 2, 1) := by decide +kernel
theorem dX8_sightOf_27 : decode cX8_sightOf 27 = .ok (.getfield 86, 3) := by decide +kernel
theorem dX8_sightOf_30 : decode cX8_sightOf 30 = .ok (.invokestatic 97, 3) := by decide +kernel
theorem dX8_sightOf_33 : decode cX8_sightOf 33 = .ok (.istore_n 3, 1) := by decide +kernel
theorem dX8_sightOf_34 : decode cX8_sightOf 34 = .ok (.aload_n 0, 1) := by decide +kernel
theorem dX8_sightOf_35 : decode cX8_sightOf 35 = .ok (.iconst 1, 1) := by decide +kernel
theorem dX8_sightOf_36 : decode cX8_sightOf 36 = .ok (.iload_n 3, 1) := by decide +kernel
theorem dX8_sightOf_37 : decode cX8_sightOf 37 = .ok (.aload_n 2, 1) := by decide +kernel
theorem dX8_sightOf_38 : decode cX8_sightOf 38 = .ok (.getfield 86, 3) := by decide +kernel
theorem dX8_sightOf_41 : decode cX8_sightOf 41 = .ok (.bipush 8, 2) := by decide +kernel
theorem dX8_sightOf_43 : decode cX8_sightOf 43 = .ok (.irem, 1) := by decide +kernel
theorem dX8_sightOf_44 : decode cX8_sightOf 44 = .ok (.aload_n 2, 1) := by decide +kernel
theorem dX8_sightOf_45 : decode cX8_sightOf 45 = .ok (.getfield 100, 3) := by decide +kernel
theorem dX8_sightOf_48 : decode cX8_sightOf 48 = .ok (.bipush 10, 2) := by decide +kernel
theorem dX8_sightOf_50 : decode cX8_sightOf 50 = .ok (.idiv, 1) := by decide +kernel
theorem dX8_sightOf_51 : decode cX8_sightOf 51 = .ok (.invokevirtual 89, 3) := by decide +kernel
theorem dX8_sightOf_54 : decode cX8_sightOf 54 = .ok (.ireturn, 1) := by decide +kernel
theorem dX8_passYears_0 : decode cX8_passYears 0 = .ok (.iconst 0, 1) := by decide +kernel
theorem dX8_passYears_1 : decode cX8_passYears 1 = .ok (.istore_n 3, 1) := by decide +kernel
theorem dX8_passYears_2 : decode cX8_passYears 2 = .ok (.iload_n 3, 1) := by decide +kernel
theorem dX8_passYears_3 : decode cX8_passYears 3 = .ok (.iload_n 2, 1) := by decide +kernel
theorem dX8_passYears_4 : decode cX8_passYears 4 = .ok (.if_icmp .ge 37, 3) := by decide +kernel
theorem dX8_passYears_7 : decode cX8_passYears 7 = .ok (.aload_n 1, 1) := by decide +kernel
theorem dX8_passYears_8 : decode cX8_passYears 8 = .ok (.getfield 86, 3) := by decide +kernel
theorem dX8_passYears_11 : decode cX8_passYears 11 = .ok (.invokestatic 103, 3) := by decide +kernel
theorem dX8_passYears_14 : decode cX8_passYears 14 = .ok (.istore 4, 2) := by decide +kernel
theorem dX8_passYears_16 : decode cX8_passYears 16 = .ok (.aload_n 0, 1) := by decide +kernel
theorem dX8_passYears_17 : decode cX8_passYears 17 = .ok (.aload_n 1, 1) := by decide +kernel
theorem dX8_passYears_18 : decode cX8_passYears 18 = .ok (.aload_n 0, 1) := by decide +kernel
theorem dX8_passYears_19 : decode cX8_passYears 19 = .ok (.getfield 25, 3) := by decide +kernel
theorem dX8_passYears_22 : decode cX8_passYears 22 = .ok (.iload 4, 2) := by decide +kernel
theorem dX8_passYears_24 : decode cX8_passYears 24 = .ok (.iaload, 1) := by decide +kernel
theorem dX8_passYears_25 : decode cX8_passYears 25 = .ok (.aload_n 0, 1) := by decide +kernel
theorem dX8_passYears_26 : decode cX8_passYears 26 = .ok (.getfield 29, 3) := by decide +kernel
theorem dX8_passYears_29 : decode cX8_passYears 29 = .ok (.iload 4, 2) := by decide +kernel
theorem dX8_passYears_31 : decode cX8_passYears 31 = .ok (.iaload, 1) := by decide +kernel
theorem dX8_passYears_32 : decode cX8_passYears 32 = .ok (.invokevirtual 106, 3) := by decide +kernel
theorem dX8_passYears_35 : decode cX8_passYears 35 = .ok (.iinc 3 1, 3) := by decide +kernel
theorem dX8_passYears_38 : decode cX8_passYears 38 = .ok (.goto (-36), 3) := by decide +kernel
theorem dX8_passYears_41 : decode cX8_passYears 41 = .ok (.return_, 1) := by decide +kernel
theorem dX8_passYear_0 : decode cX8_passYear 0 = .ok (.iload_n 2, 1) := by decide +kernel
theorem dX8_passYear_1 : decode cX8_passYear 1 = .ok (.iload_n 3, 1) := by decide +kernel
theorem dX8_passYear_2 : decode cX8_passYear 2 = .ok (.if_icmp .eq 75, 3) := by decide +kernel
theorem dX8_passYear_5 : decode cX8_passYear 5 = .ok (.aload_n 0, 1) := by decide +kernel
theorem dX8_passYear_6 : decode cX8_passYear 6 = .ok (.getfield 12, 3) := by decide +kernel
theorem dX8_passYear_9 : decode cX8_passYear 9 = .ok (.iload_n 2, 1) := by decide +kernel
theorem dX8_passYear_10 : decode cX8_passYear 10 = .ok (.invokevirtual 110, 3) := by decide +kernel
theorem dX8_passYear_13 : decode cX8_passYear 13 = .ok (.ifCond .eq 64, 3) := by decide +kernel
theorem dX8_passYear_16 : decode cX8_passYear 16 = .ok (.aload_n 0, 1) := by decide +kernel
theorem dX8_passYear_17 : decode cX8_passYear 17 = .ok (.getfield 12, 3) := by decide +kernel
theorem dX8_passYear_20 : decode cX8_passYear 20 = .ok (.iload_n 3, 1) := by decide +kernel
theorem dX8_passYear_21 : decode cX8_passYear 21 = .ok (.invokevirtual 110, 3) := by decide +kernel
theorem dX8_passYear_24 : decode cX8_passYear 24 = .ok (.ifCond .eq 53, 3) := by decide +kernel
theorem dX8_passYear_27 : decode cX8_passYear 27 = .ok (.aload_n 0, 1) := by decide +kernel
theorem dX8_passYear_28 : decode cX8_passYear 28 = .ok (.iload_n 3, 1) := by decide +kernel
theorem dX8_passYear_29 : decode cX8_passYear 29 = .ok (.iload_n 2, 1) := by decide +kernel
theorem dX8_passYear_30 : decode cX8_passYear 30 = .ok (.aload_n 1, 1) := by decide +kernel
theorem dX8_passYear_31 : decode cX8_passYear 31 = .ok (.invokevirtual 114, 3) := by decide +kernel
theorem dX8_passYear_34 : decode cX8_passYear 34 = .ok (.aload_n 1, 1) := by decide +kernel
theorem dX8_passYear_35 : decode cX8_passYear 35 = .ok (.getfield 100, 3) := by decide +kernel
theorem dX8_passYear_38 : decode cX8_passYear 38 = .ok (.invokestatic 63, 3) := by decide +kernel
theorem dX8_passYear_41 : decode cX8_passYear 41 = .ok (.istore 4, 2) := by decide +kernel
theorem dX8_passYear_43 : decode cX8_passYear 43 = .ok (.iload 4, 2) := by decide +kernel
theorem dX8_passYear_45 : decode cX8_passYear 45 = .ok (.aload_n 0, 1) := by decide +kernel
theorem dX8_passYear_46 : decode cX8_passYear 46 = .ok (.iload_n 2, 1) := by decide +kernel
theorem dX8_passYear_47 : decode cX8_passYear 47 = .ok (.aload_n 1, 1) := by decide +kernel
theorem dX8_passYear_48 : decode cX8_passYear 48 = .ok (.invokevirtual 118, 3) := by decide +kernel
theorem dX8_passYear_51 : decode cX8_passYear 51 = .ok (.if_icmp .gt 15, 3) := by decide +kernel
theorem dX8_passYear_54 : decode cX8_passYear 54 = .ok (.aload_n 1, 1) := by decide +kernel
theorem dX8_passYear_55 : decode cX8_passYear 55 = .ok (.getfield 122, 3) := by decide +kernel
theorem dX8_passYear_58 : decode cX8_passYear 58 = .ok (.iload_n 2, 1) := by decide +kernel
theorem dX8_passYear_59 : decode cX8_passYear 59 = .ok (.dup2, 1) := by decide +kernel
theorem dX8_passYear_60 : decode cX8_passYear 60 = .ok (.iaload, 1) := by decide +kernel
theorem dX8_passYear_61 : decode cX8_passYear 61 = .ok (.iconst 1, 1) := by decide +kernel
theorem dX8_passYear_62 : decode cX8_passYear 62 = .ok (.iload_n 3, 1) := by decide +kernel
theorem dX8_passYear_63 : decode cX8_passYear 63 = .ok (.ishl, 1) := by decide +kernel
theorem dX8_passYear_64 : decode cX8_passYear 64 = .ok (.ior, 1) := by decide +kernel
theorem dX8_passYear_65 : decode cX8_passYear 65 = .ok (.iastore, 1) := by decide +kernel
theorem dX8_passYear_66 : decode cX8_passYear 66 = .ok (.aload_n 1, 1) := by decide +kernel
theorem dX8_passYear_67 : decode cX8_passYear 67 = .ok (.dup, 1) := by decide +kernel
theorem dX8_passYear_68 : decode cX8_passYear 68 = .ok (.getfield 100, 3) := by decide +kernel
theorem dX8_passYear_71 : decode cX8_passYear 71 = .ok (.iload 4, 2) := by decide +kernel
theorem dX8_passYear_73 : decode cX8_passYear 73 = .ok (.isub, 1) := by decide +kernel
theorem dX8_passYear_74 : decode cX8_passYear 74 = .ok (.putfield 100, 3) := by decide +kernel
theorem dX8_passYear_77 : decode cX8_passYear 77 = .ok (.aload_n 1, 1) := by decide +kernel
theorem dX8_passYear_78 : decode cX8_passYear 78 = .ok (.aload_n 1, 1) := by decide +kernel
theorem dX8_passYear_79 : decode cX8_passYear 79 = .ok (.getfield 100, 3) := by decide +kernel
theorem dX8_passYear_82 : decode cX8_passYear 82 = .ok (.aload_n 1, 1) := by decide +kernel
theorem dX8_passYear_83 : decode cX8_passYear 83 = .ok (.getfield 125, 3) := by decide +kernel
theorem dX8_passYear_86 : decode cX8_passYear 86 = .ok (.iadd, 1) := by decide +kernel
theorem dX8_passYear_87 : decode cX8_passYear 87 = .ok (.sipush 999, 3) := by decide +kernel
theorem dX8_passYear_90 : decode cX8_passYear 90 = .ok (.invokestatic 63, 3) := by decide +kernel
theorem dX8_passYear_93 : decode cX8_passYear 93 = .ok (.putfield 100, 3) := by decide +kernel
theorem dX8_passYear_96 : decode cX8_passYear 96 = .ok (.aload_n 1, 1) := by decide +kernel
theorem dX8_passYear_97 : decode cX8_passYear 97 = .ok (.dup, 1) := by decide +kernel
theorem dX8_passYear_98 : decode cX8_passYear 98 = .ok (.getfield 86, 3) := by decide +kernel
theorem dX8_passYear_101 : decode cX8_passYear 101 = .ok (.iconst 1, 1) := by decide +kernel
theorem dX8_passYear_102 : decode cX8_passYear 102 = .ok (.iadd, 1) := by decide +kernel
theorem dX8_passYear_103 : decode cX8_passYear 103 = .ok (.putfield 86, 3) := by decide +kernel
theorem dX8_passYear_106 : decode cX8_passYear 106 = .ok (.return_, 1) := by decide +kernel
theorem dX8_drawMeeting_0 : decode cX8_drawMeeting 0 = .ok (.aload_n 0, 1) := by decide +kernel
theorem dX8_drawMeeting_1 : decode cX8_drawMeeting 1 = .ok (.getfield 21, 3) := by decide +kernel
theorem dX8_drawMeeting_4 : decode cX8_drawMeeting 4 = .ok (.getfield 86, 3) := by decide +kernel
theorem dX8_drawMeeting_7 : decode cX8_drawMeeting 7 = .ok (.invokestatic 103, 3) := by decide +kernel
theorem dX8_drawMeeting_10 : decode cX8_drawMeeting 10 = .ok (.istore_n 1, 1) := by decide +kernel
theorem dX8_drawMeeting_11 : decode cX8_drawMeeting 11 = .ok (.aload_n 0, 1) := by decide +kernel
theorem dX8_drawMeeting_12 : decode cX8_drawMeeting 12 = .ok (.getfield 25, 3) := by decide +kernel
theorem dX8_drawMeeting_15 : decode cX8_drawMeeting 15 = .ok (.iload_n 1, 1) := by decide +kernel
theorem dX8_drawMeeting_16 : decode cX8_drawMeeting 16 = .ok (.aload_n 0, 1) := by decide +kernel
theorem dX8_drawMeeting_17 : decode cX8_drawMeeting 17 = .ok (.invokevirtual 128, 3) := by decide +kernel
theorem dX8_drawMeeting_20 : decode cX8_drawMeeting 20 = .ok (.bipush 8, 2) := by decide +kernel
theorem dX8_drawMeeting_22 : decode cX8_drawMeeting 22 = .ok (.irem, 1) := by decide +kernel
theorem dX8_drawMeeting_23 : decode cX8_drawMeeting 23 = .ok (.iastore, 1) := by decide +kernel
theorem dX8_drawMeeting_24 : decode cX8_drawMeeting 24 = .ok (.aload_n 0, 1) := by decide +kernel
theorem dX8_drawMeeting_25 : decode cX8_drawMeeting 25 = .ok (.getfield 29, 3) := by decide +kernel
theorem dX8_drawMeeting_28 : decode cX8_drawMeeting 28 = .ok (.iload_n 1, 1) := by decide +kernel
theorem dX8_drawMeeting_29 : decode cX8_drawMeeting 29 = .ok (.aload_n 0, 1) := by decide +kernel
theorem dX8_drawMeeting_30 : decode cX8_drawMeeting 30 = .ok (.invokevirtual 128, 3) := by decide +kernel
theorem dX8_drawMeeting_33 : decode cX8_drawMeeting 33 = .ok (.bipush 8, 2) := by decide +kernel
theorem dX8_drawMeeting_35 : decode cX8_drawMeeting 35 = .ok (.irem, 1) := by decide +kernel
theorem dX8_drawMeeting_36 : decode cX8_drawMeeting 36 = .ok (.iastore, 1) := by decide +kernel
theorem dX8_drawMeeting_37 : decode cX8_drawMeeting 37 = .ok (.return_, 1) := by decide +kernel
theorem dX8_draw_0 : decode cX8_draw 0 = .ok (.aload_n 0, 1) := by decide +kernel
theorem dX8_draw_1 : decode cX8_draw 1 = .ok (.aload_n 0, 1) := by decide +kernel
theorem dX8_draw_2 : decode cX8_draw 2 = .ok (.getfield 51, 3) := by decide +kernel
theorem dX8_draw_5 : decode cX8_draw 5 = .ok (.ldc 132, 2) := by decide +kernel
theorem dX8_draw_7 : decode cX8_draw 7 = .ok (.imul, 1) := by decide +kernel
theorem dX8_draw_8 : decode cX8_draw 8 = .ok (.sipush 12345, 3) := by decide +kernel
theorem dX8_draw_11 : decode cX8_draw 11 = .ok (.iadd, 1) := by decide +kernel
theorem dX8_draw_12 : decode cX8_draw 12 = .ok (.putfield 51, 3) := by decide +kernel
theorem dX8_draw_15 : decode cX8_draw 15 = .ok (.aload_n 0, 1) := by decide +kernel
theorem dX8_draw_16 : decode cX8_draw 16 = .ok (.getfield 51, 3) := by decide +kernel
theorem dX8_draw_19 : decode cX8_draw 19 = .ok (.bipush 8, 2) := by decide +kernel
theorem dX8_draw_21 : decode cX8_draw 21 = .ok (.iushr, 1) := by decide +kernel
theorem dX8_draw_22 : decode cX8_draw 22 = .ok (.ireturn, 1) := by decide +kernel
theorem dX8_placeOf_0 : decode cX8_placeOf 0 = .ok (.iload_n 0, 1) := by decide +kernel
theorem dX8_placeOf_1 : decode cX8_placeOf 1 = .ok (.bipush 6, 2) := by decide +kernel
theorem dX8_placeOf_3 : decode cX8_placeOf 3 = .ok (.invokestatic 133, 3) := by decide +kernel
theorem dX8_placeOf_6 : decode cX8_placeOf 6 = .ok (.ireturn, 1) := by decide +kernel
theorem dX8_throughTo_0 : decode cX8_throughTo 0 = .ok (.aload_n 0, 1) := by decide +kernel
theorem dX8_throughTo_1 : decode cX8_throughTo 1 = .ok (.iload_n 1, 1) := by decide +kernel
theorem dX8_throughTo_2 : decode cX8_throughTo 2 = .ok (.aload_n 0, 1) := by decide +kernel
theorem dX8_throughTo_3 : decode cX8_throughTo 3 = .ok (.getfield 21, 3) := by decide +kernel
theorem dX8_throughTo_6 : decode cX8_throughTo 6 = .ok (.invokevirtual 118, 3) := by decide +kernel
theorem dX8_throughTo_9 : decode cX8_throughTo 9 = .ok (.istore_n 2, 1) := by decide +kernel
theorem dX8_throughTo_10 : decode cX8_throughTo 10 = .ok (.iconst 0, 1) := by decide +kernel
theorem dX8_throughTo_11 : decode cX8_throughTo 11 = .ok (.istore_n 3, 1) := by decide +kernel
theorem dX8_throughTo_12 : decode cX8_throughTo 12 = .ok (.iconst 0, 1) := by decide +kernel
theorem dX8_throughTo_13 : decode cX8_throughTo 13 = .ok (.istore 4, 2) := by decide +kernel
theorem dX8_throughTo_15 : decode cX8_throughTo 15 = .ok (.iload 4, 2) := by decide +kernel
theorem dX8_throughTo_17 : decode cX8_throughTo 17 = .ok (.aload_n 0, 1) := by decide +kernel
theorem dX8_throughTo_18 : decode cX8_throughTo 18 = .ok (.getfield 12, 3) := by decide +kernel
theorem dX8_throughTo_21 : decode cX8_throughTo 21 = .ok (.getfield 136, 3) := by decide +kernel
theorem dX8_throughTo_24 : decode cX8_throughTo 24 = .ok (.if_icmp .ge 33, 3) := by decide +kernel
theorem dX8_throughTo_27 : decode cX8_throughTo 27 = .ok (.iload 4, 2) := by decide +kernel
theorem dX8_throughTo_29 : decode cX8_throughTo 29 = .ok (.iload_n 1, 1) := by decide +kernel
theorem dX8_throughTo_30 : decode cX8_throughTo 30 = .ok (.if_icmp .eq 21, 3) := by decide +kernel
theorem dX8_throughTo_33 : decode cX8_throughTo 33 = .ok (.aload_n 0, 1) := by decide +kernel
theorem dX8_throughTo_34 : decode cX8_throughTo 34 = .ok (.iload 4, 2) := by decide +kernel
theorem dX8_throughTo_36 : decode cX8_throughTo 36 = .ok (.iload_n 1, 1) := by decide +kernel
theorem dX8_throughTo_37 : decode cX8_throughTo 37 = .ok (.aload_n 0, 1) := by decide +kernel
theorem dX8_throughTo_38 : decode cX8_throughTo 38 = .ok (.getfield 21, 3) := by decide +kernel
theorem dX8_throughTo_41 : decode cX8_throughTo 41 = .ok (.invokevirtual 114, 3) := by decide +kernel
theorem dX8_throughTo_44 : decode cX8_throughTo 44 = .ok (.iload_n 2, 1) := by decide +kernel
theorem dX8_throughTo_45 : decode cX8_throughTo 45 = .ok (.if_icmp .gt 6, 3) := by decide +kernel
theorem dX8_throughTo_48 : decode cX8_throughTo 48 = .ok (.iinc 3 1, 3) := by decide +kernel
theorem dX8_throughTo_51 : decode cX8_throughTo 51 = .ok (.iinc 4 1, 3) := by decide +kernel
theorem dX8_throughTo_54 : decode cX8_throughTo 54 = .ok (.goto (-39), 3) := by decide +kernel
theorem dX8_throughTo_57 : decode cX8_throughTo 57 = .ok (.iload_n 3, 1) := by decide +kernel
theorem dX8_throughTo_58 : decode cX8_throughTo 58 = .ok (.ireturn, 1) := by decide +kernel
theorem dX8_parentsFitting_0 : decode cX8_parentsFitting 0 = .ok (.iconst 0, 1) := by decide +kernel
theorem dX8_parentsFitting_1 : decode cX8_parentsFitting 1 = .ok (.istore_n 3, 1) := by decide +kernel
theorem dX8_parentsFitting_2 : decode cX8_parentsFitting 2 = .ok (.aload_n 0, 1) := by decide +kernel
theorem dX8_parentsFitting_3 : decode cX8_parentsFitting 3 = .ok (.getfield 12, 3) := by decide +kernel
theorem dX8_parentsFitting_6 : decode cX8_parentsFitting 6 = .ok (.getfield 139, 3) := by decide +kernel
theorem dX8_parentsFitting_9 : decode cX8_parentsFitting 9 = .ok (.iload_n 2, 1) := by decide +kernel
theorem dX8_parentsFitting_10 : decode cX8_parentsFitting 10 = .ok (.iaload, 1) := by decide +kernel
theorem dX8_parentsFitting_11 : decode cX8_parentsFitting 11 = .ok (.istore 4, 2) := by decide +kernel
theorem dX8_parentsFitting_13 : decode cX8_parentsFitting 13 = .ok (.iconst 0, 1) := by decide +kernel
theorem dX8_parentsFitting_14 : decode cX8_parentsFitting 14 = .ok (.istore 5, 2) := by decide +kernel
theorem dX8_parentsFitting_16 : decode cX8_parentsFitting 16 = .ok (.iload 5, 2) := by decide +kernel
theorem dX8_parentsFitting_18 : decode cX8_parentsFitting 18 = .ok (.iload_n 2, 1) := by decide +kernel
theorem dX8_parentsFitting_19 : decode cX8_parentsFitting 19 = .ok (.if_icmp .ge 35, 3) := by decide +kernel
theorem dX8_parentsFitting_22 : decode cX8_parentsFitting 22 = .ok (.aload_n 0, 1) := by decide +kernel
theorem dX8_parentsFitting_23 : decode cX8_parentsFitting 23 = .ok (.getfield 12, 3) := by decide +kernel
theorem dX8_parentsFitting_26 : decode cX8_parentsFitting 26 = .ok (.iload_n 2, 1) := by decide +kernel
theorem dX8_parentsFitting_27 : decode cX8_parentsFitting 27 = .ok (.iload 5, 2) := by decide +kernel
theorem dX8_parentsFitting_29 : decode cX8_parentsFitting 29 = .ok (.invokevirtual 142, 3) := by decide +kernel
theorem dX8_parentsFitting_32 : decode cX8_parentsFitting 32 = .ok (.aload_n 0, 1) := by decide +kernel
theorem dX8_parentsFitting_33 : decode cX8_parentsFitting 33 = .ok (.iload_n 2, 1) := by decide +kernel
theorem dX8_parentsFitting_34 : decode cX8_parentsFitting 34 = .ok (.aload_n 1, 1) := by decide +kernel
theorem dX8_parentsFitting_35 : decode cX8_parentsFitting 35 = .ok (.invokevirtual 146, 3) := by decide +kernel
theorem dX8_parentsFitting_38 : decode cX8_parentsFitting 38 = .ok (.ifCond .eq 10, 3) := by decide +kernel
theorem dX8_parentsFitting_41 : decode cX8_parentsFitting 41 = .ok (.iload_n 3, 1) := by decide +kernel
theorem dX8_parentsFitting_42 : decode cX8_parentsFitting 42 = .ok (.iconst 1, 1) := by decide +kernel
theorem dX8_parentsFitting_43 : decode cX8_parentsFitting 43 = .ok (.iload 5, 2) := by decide +kernel
theorem dX8_parentsFitting_45 : decode cX8_parentsFitting 45 = .ok (.ishl, 1) := by decide +kernel
theorem dX8_parentsFitting_46 : decode cX8_parentsFitting 46 = .ok (.ior, 1) := by decide +kernel
theorem dX8_parentsFitting_47 : decode cX8_parentsFitting 47 = .ok (.istore_n 3, 1) := by decide +kernel
theorem dX8_parentsFitting_48 : decode cX8_parentsFitting 48 = .ok (.iinc 5 1, 3) := by decide +kernel
theorem dX8_parentsFitting_51 : decode cX8_parentsFitting 51 = .ok (.goto (-35), 3) := by decide +kernel
theorem dX8_parentsFitting_54 : decode cX8_parentsFitting 54 = .ok (.aload_n 0, 1) := by decide +kernel
theorem dX8_parentsFitting_55 : decode cX8_parentsFitting 55 = .ok (.getfield 12, 3) := by decide +kernel
theorem dX8_parentsFitting_58 : decode cX8_parentsFitting 58 = .ok (.iload_n 2, 1) := by decide +kernel
theorem dX8_parentsFitting_59 : decode cX8_parentsFitting 59 = .ok (.iload 4, 2) := by decide +kernel
theorem dX8_parentsFitting_61 : decode cX8_parentsFitting 61 = .ok (.invokevirtual 142, 3) := by decide +kernel
theorem dX8_parentsFitting_64 : decode cX8_parentsFitting 64 = .ok (.iload_n 3, 1) := by decide +kernel
theorem dX8_parentsFitting_65 : decode cX8_parentsFitting 65 = .ok (.ireturn, 1) := by decide +kernel
theorem dX8_wouldLet_0 : decode cX8_wouldLet 0 = .ok (.iconst 0, 1) := by decide +kernel
theorem dX8_wouldLet_1 : decode cX8_wouldLet 1 = .ok (.istore_n 3, 1) := by decide +kernel
theorem dX8_wouldLet_2 : decode cX8_wouldLet 2 = .ok (.iload_n 3, 1) := by decide +kernel
theorem dX8_wouldLet_3 : decode cX8_wouldLet 3 = .ok (.aload_n 2, 1) := by decide +kernel
theorem dX8_wouldLet_4 : decode cX8_wouldLet 4 = .ok (.invokevirtual 150, 3) := by decide +kernel
theorem dX8_wouldLet_7 : decode cX8_wouldLet 7 = .ok (.if_icmp .ge 40, 3) := by decide +kernel
theorem dX8_wouldLet_10 : decode cX8_wouldLet 10 = .ok (.aload_n 0, 1) := by decide +kernel
theorem dX8_wouldLet_11 : decode cX8_wouldLet 11 = .ok (.getfield 12, 3) := by decide +kernel
theorem dX8_wouldLet_14 : decode cX8_wouldLet 14 = .ok (.iload_n 3, 1) := by decide +kernel
theorem dX8_wouldLet_15 : decode cX8_wouldLet 15 = .ok (.invokevirtual 110, 3) := by decide +kernel
theorem dX8_wouldLet_18 : decode cX8_wouldLet 18 = .ok (.ifCond .eq 21, 3) := by decide +kernel
theorem dX8_wouldLet_21 : decode cX8_wouldLet 21 = .ok (.aload_n 0, 1) := by decide +kernel
theorem dX8_wouldLet_22 : decode cX8_wouldLet 22 = .ok (.iload_n 1, 1) := by decide +kernel
theorem dX8_wouldLet_23 : decode cX8_wouldLet 23 = .ok (.iload_n 3, 1) := by decide +kernel
theorem dX8_wouldLet_24 : decode cX8_wouldLet 24 = .ok (.aload_n 0, 1) := by decide +kernel
theorem dX8_wouldLet_25 : decode cX8_wouldLet 25 = .ok (.getfield 21, 3) := by decide +kernel
theorem dX8_wouldLet_28 : decode cX8_wouldLet 28 = .ok (.invokevirtual 114, 3) := by decide +kernel
theorem dX8_wouldLet_31 : decode cX8_wouldLet 31 = .ok (.aload_n 2, 1) := by decide +kernel
theorem dX8_wouldLet_32 : decode cX8_wouldLet 32 = .ok (.iload_n 3, 1) := by decide +kernel
theorem dX8_wouldLet_33 : decode cX8_wouldLet 33 = .ok (.invokevirtual 153, 3) := by decide +kernel
theorem dX8_wouldLet_36 : decode cX8_wouldLet 36 = .ok (.if_icmp .eq 5, 3) := by decide +kernel
theorem dX8_wouldLet_39 : decode cX8_wouldLet 39 = .ok (.iconst 0, 1) := by decide +kernel
theorem dX8_wouldLet_40 : decode cX8_wouldLet 40 = .ok (.ireturn, 1) := by decide +kernel
theorem dX8_wouldLet_41 : decode cX8_wouldLet 41 = .ok (.iinc 3 1, 3) := by decide +kernel
theorem dX8_wouldLet_44 : decode cX8_wouldLet 44 = .ok (.goto (-42), 3) := by decide +kernel
theorem dX8_wouldLet_47 : decode cX8_wouldLet 47 = .ok (.iconst 1, 1) := by decide +kernel
theorem dX8_wouldLet_48 : decode cX8_wouldLet 48 = .ok (.ireturn, 1) := by decide +kernel
theorem dX8_copy_0 : decode cX8_copy 0 = .ok (.aload_n 0, 1) := by decide +kernel
theorem dX8_copy_1 : decode cX8_copy 1 = .ok (.getfield 12, 3) := by decide +kernel
theorem dX8_copy_4 : decode cX8_copy 4 = .ok (.aload_n 1, 1) := by decide +kernel
theorem dX8_copy_5 : decode cX8_copy 5 = .ok (.getfield 12, 3) := by decide +kernel
theorem dX8_copy_8 : decode cX8_copy 8 = .ok (.invokevirtual 156, 3) := by decide +kernel
theorem dX8_copy_11 : decode cX8_copy 11 = .ok (.aload_n 0, 1) := by decide +kernel
theorem dX8_copy_12 : decode cX8_copy 12 = .ok (.getfield 21, 3) := by decide +kernel
theorem dX8_copy_15 : decode cX8_copy 15 = .ok (.aload_n 1, 1) := by decide +kernel
theorem dX8_copy_16 : decode cX8_copy 16 = .ok (.getfield 21, 3) := by decide +kernel
theorem dX8_copy_19 : decode cX8_copy 19 = .ok (.invokevirtual 160, 3) := by decide +kernel
theorem dX8_copy_22 : decode cX8_copy 22 = .ok (.aload_n 1, 1) := by decide +kernel
theorem dX8_copy_23 : decode cX8_copy 23 = .ok (.getfield 25, 3) := by decide +kernel
theorem dX8_copy_26 : decode cX8_copy 26 = .ok (.iconst 0, 1) := by decide +kernel
theorem dX8_copy_27 : decode cX8_copy 27 = .ok (.aload_n 0, 1) := by decide +kernel
theorem dX8_copy_28 : decode cX8_copy 28 = .ok (.getfield 25, 3) := by decide +kernel
theorem dX8_copy_31 : decode cX8_copy 31 = .ok (.iconst 0, 1) := by decide +kernel
theorem dX8_copy_32 : decode cX8_copy 32 = .ok (.bipush 6, 2) := by decide +kernel
theorem dX8_copy_34 : decode cX8_copy 34 = .ok (.invokestatic 163, 3) := by decide +kernel
theorem dX8_copy_37 : decode cX8_copy 37 = .ok (.aload_n 1, 1) := by decide +kernel
theorem dX8_copy_38 : decode cX8_copy 38 = .ok (.getfield 29, 3) := by decide +kernel
theorem dX8_copy_41 : decode cX8_copy 41 = .ok (.iconst 0, 1) := by decide +kernel
theorem dX8_copy_42 : decode cX8_copy 42 = .ok (.aload_n 0, 1) := by decide +kernel
theorem dX8_copy_43 : decode cX8_copy 43 = .ok (.getfield 29, 3) := by decide +kernel
theorem dX8_copy_46 : decode cX8_copy 46 = .ok (.iconst 0, 1) := by decide +kernel
theorem dX8_copy_47 : decode cX8_copy 47 = .ok (.bipush 6, 2) := by decide +kernel
theorem dX8_copy_49 : decode cX8_copy 49 = .ok (.invokestatic 163, 3) := by decide +kernel
theorem dX8_copy_52 : decode cX8_copy 52 = .ok (.iconst 0, 1) := by decide +kernel
theorem dX8_copy_53 : decode cX8_copy 53 = .ok (.istore_n 2, 1) := by decide +kernel
theorem dX8_copy_54 : decode cX8_copy 54 = .ok (.iload_n 2, 1) := by decide +kernel
theorem dX8_copy_55 : decode cX8_copy 55 = .ok (.iconst 2, 1) := by decide +kernel
theorem dX8_copy_56 : decode cX8_copy 56 = .ok (.if_icmp .ge 30, 3) := by decide +kernel
theorem dX8_copy_59 : decode cX8_copy 59 = .ok (.aload_n 0, 1) := by decide +kernel
theorem dX8_copy_60 : decode cX8_copy 60 = .ok (.getfield 34, 3) := by decide +kernel
theorem dX8_copy_63 : decode cX8_copy 63 = .ok (.iload_n 2, 1) := by decide +kernel
theorem dX8_copy_64 : decode cX8_copy 64 = .ok (.aaload, 1) := by decide +kernel
theorem dX8_copy_65 : decode cX8_copy 65 = .ok (.getfield 169, 3) := by decide +kernel
theorem dX8_copy_68 : decode cX8_copy 68 = .ok (.aload_n 1, 1) := by decide +kernel
theorem dX8_copy_69 : decode cX8_copy 69 = .ok (.getfield 34, 3) := by decide +kernel
theorem dX8_copy_72 : decode cX8_copy 72 = .ok (.iload_n 2, 1) := by decide +kernel
theorem dX8_copy_73 : decode cX8_copy 73 = .ok (.aaload, 1) := by decide +kernel
theorem dX8_copy_74 : decode cX8_copy 74 = .ok (.getfield 169, 3) := by decide +kernel
theorem dX8_copy_77 : decode cX8_copy 77 = .ok (.invokevirtual 172, 3) := by decide +kernel
theorem dX8_copy_80 : decode cX8_copy 80 = .ok (.iinc 2 1, 3) := by decide +kernel
theorem dX8_copy_83 : decode cX8_copy 83 = .ok (.goto (-29), 3) := by decide +kernel
theorem dX8_copy_86 : decode cX8_copy 86 = .ok (.aload_n 0, 1) := by decide +kernel
theorem dX8_copy_87 : decode cX8_copy 87 = .ok (.getfield 44, 3) := by decide +kernel
theorem dX8_copy_90 : decode cX8_copy 90 = .ok (.aload_n 1, 1) := by decide +kernel
theorem dX8_copy_91 : decode cX8_copy 91 = .ok (.getfield 44, 3) := by decide +kernel
theorem dX8_copy_94 : decode cX8_copy 94 = .ok (.invokevirtual 172, 3) := by decide +kernel
theorem dX8_copy_97 : decode cX8_copy 97 = .ok (.aload_n 0, 1) := by decide +kernel
theorem dX8_copy_98 : decode cX8_copy 98 = .ok (.getfield 48, 3) := by decide +kernel
theorem dX8_copy_101 : decode cX8_copy 101 = .ok (.aload_n 1, 1) := by decide +kernel
theorem dX8_copy_102 : decode cX8_copy 102 = .ok (.getfield 48, 3) := by decide +kernel
theorem dX8_copy_105 : decode cX8_copy 105 = .ok (.invokevirtual 172, 3) := by decide +kernel
theorem dX8_copy_108 : decode cX8_copy 108 = .ok (.aload_n 0, 1) := by decide +kernel
theorem dX8_copy_109 : decode cX8_copy 109 = .ok (.aload_n 1, 1) := by decide +kernel
theorem dX8_copy_110 : decode cX8_copy 110 = .ok (.getfield 51, 3) := by decide +kernel
theorem dX8_copy_113 : decode cX8_copy 113 = .ok (.putfield 51, 3) := by decide +kernel
theorem dX8_copy_116 : decode cX8_copy 116 = .ok (.return_, 1) := by decide +kernel
theorem dX9_init_0 : decode cX9_init 0 = .ok (.aload_n 0, 1) := by decide +kernel
theorem dX9_init_1 : decode cX9_init 1 = .ok (.invokespecial 1, 3) := by decide +kernel
theorem dX9_init_4 : decode cX9_init 4 = .ok (.aload_n 0, 1) := by decide +kernel
theorem dX9_init_5 : decode cX9_init 5 = .ok (.new 7, 3) := by decide +kernel
theorem dX9_init_8 : decode cX9_init 8 = .ok (.dup, 1) := by decide +kernel
theorem dX9_init_9 : decode cX9_init 9 = .ok (.invokespecial 9, 3) := by decide +kernel
theorem dX9_init_12 : decode cX9_init 12 = .ok (.putfield 10, 3) := by decide +kernel
theorem dX9_init_15 : decode cX9_init 15 = .ok (.aload_n 0, 1) := by decide +kernel
theorem dX9_init_16 : decode cX9_init 16 = .ok (.new 7, 3) := by decide +kernel
theorem dX9_init_19 : decode cX9_init 19 = .ok (.dup, 1) := by decide +kernel
theorem dX9_init_20 : decode cX9_init 20 = .ok (.invokespecial 9, 3) := by decide +kernel
theorem dX9_init_23 : decode cX9_init 23 = .ok (.putfield 16, 3) := by decide +kernel
theorem dX9_init_26 : decode cX9_init 26 = .ok (.aload_n 0, 1) := by decide +kernel
theorem dX9_init_27 : decode cX9_init 27 = .ok (.new 19, 3) := by decide +kernel
theorem dX9_init_30 : decode cX9_init 30 = .ok (.dup, 1) := by decide +kernel
theorem dX9_init_31 : decode cX9_init 31 = .ok (.invokespecial 21, 3) := by decide +kernel
theorem dX9_init_34 : decode cX9_init 34 = .ok (.putfield 22, 3) := by decide +kernel
theorem dX9_init_37 : decode cX9_init 37 = .ok (.aload_n 0, 1) := by decide +kernel
theorem dX9_init_38 : decode cX9_init 38 = .ok (.new 26, 3) := by decide +kernel
theorem dX9_init_41 : decode cX9_init 41 = .ok (.dup, 1) := by decide +kernel
theorem dX9_init_42 : decode cX9_init 42 = .ok (.aload_n 0, 1) := by decide +kernel
theorem dX9_init_43 : decode cX9_init 43 = .ok (.getfield 10, 3) := by decide +kernel
theorem dX9_init_46 : decode cX9_init 46 = .ok (.getfield 28, 3) := by decide +kernel
theorem dX9_init_49 : decode cX9_init 49 = .ok (.invokespecial 32, 3) := by decide +kernel
theorem dX9_init_52 : decode cX9_init 52 = .ok (.putfield 35, 3) := by decide +kernel
theorem dX9_init_55 : decode cX9_init 55 = .ok (.aload_n 0, 1) := by decide +kernel
theorem dX9_init_56 : decode cX9_init 56 = .ok (.new 39, 3) := by decide +kernel
theorem dX9_init_59 : decode cX9_init 59 = .ok (.dup, 1) := by decide +kernel
theorem dX9_init_60 : decode cX9_init 60 = .ok (.invokespecial 41, 3) := by decide +kernel
theorem dX9_init_63 : decode cX9_init 63 = .ok (.putfield 42, 3) := by decide +kernel
theorem dX9_init_66 : decode cX9_init 66 = .ok (.aload_n 0, 1) := by decide +kernel
theorem dX9_init_67 : decode cX9_init 67 = .ok (.iconst 4, 1) := by decide +kernel
theorem dX9_init_68 : decode cX9_init 68 = .ok (.anewarray 46, 3) := by decide +kernel
theorem dX9_init_71 : decode cX9_init 71 = .ok (.putfield 48, 3) := by decide +kernel
theorem dX9_init_74 : decode cX9_init 74 = .ok (.iconst 0, 1) := by decide +kernel
theorem dX9_init_75 : decode cX9_init 75 = .ok (.istore_n 1, 1) := by decide +kernel
theorem dX9_init_76 : decode cX9_init 76 = .ok (.iload_n 1, 1) := by decide +kernel
theorem dX9_init_77 : decode cX9_init 77 = .ok (.iconst 4, 1) := by decide +kernel
theorem dX9_init_78 : decode cX9_init 78 = .ok (.if_icmp .ge 22, 3) := by decide +kernel
theorem dX9_init_81 : decode cX9_init 81 = .ok (.aload_n 0, 1) := by decide +kernel
theorem dX9_init_82 : decode cX9_init 82 = .ok (.getfield 48, 3) := by decide +kernel
theorem dX9_init_85 : decode cX9_init 85 = .ok (.iload_n 1, 1) := by decide +kernel
theorem dX9_init_86 : decode cX9_init 86 = .ok (.new 46, 3) := by decide +kernel
theorem dX9_init_89 : decode cX9_init 89 = .ok (.dup, 1) := by decide +kernel
theorem dX9_init_90 : decode cX9_init 90 = .ok (.invokespecial 52, 3) := by decide +kernel
theorem dX9_init_93 : decode cX9_init 93 = .ok (.aastore, 1) := by decide +kernel
theorem dX9_init_94 : decode cX9_init 94 = .ok (.iinc 1 1, 3) := by decide +kernel
theorem dX9_init_97 : decode cX9_init 97 = .ok (.goto (-21), 3) := by decide +kernel
theorem dX9_init_100 : decode cX9_init 100 = .ok (.aload_n 0, 1) := by decide +kernel
theorem dX9_init_101 : decode cX9_init 101 = .ok (.bipush 7, 2) := by decide +kernel
theorem dX9_init_103 : decode cX9_init 103 = .ok (.newarray .int, 2) := by decide +kernel
theorem dX9_init_105 : decode cX9_init 105 = .ok (.putfield 53, 3) := by decide +kernel
theorem dX9_init_108 : decode cX9_init 108 = .ok (.aload_n 0, 1) := by decide +kernel
theorem dX9_init_109 : decode cX9_init 109 = .ok (.iconst 0, 1) := by decide +kernel
theorem dX9_init_110 : decode cX9_init 110 = .ok (.putfield 57, 3) := by decide +kernel
theorem dX9_init_113 : decode cX9_init 113 = .ok (.return_, 1) := by decide +kernel
theorem dX9_person_0 : decode cX9_person 0 = .ok (.iload_n 1, 1) := by decide +kernel
theorem dX9_person_1 : decode cX9_person 1 = .ok (.invokestatic 61, 3) := by decide +kernel
theorem dX9_person_4 : decode cX9_person 4 = .ok (.ifCond .eq 22, 3) := by decide +kernel
theorem dX9_person_7 : decode cX9_person 7 = .ok (.iload_n 2, 1) := by decide +kernel
theorem dX9_person_8 : decode cX9_person 8 = .ok (.iconst (-1), 1) := by decide +kernel
theorem dX9_person_9 : decode cX9_person 9 = .ok (.if_icmp .lt 17, 3) := by decide +kernel
theorem dX9_person_12 : decode cX9_person 12 = .ok (.iload_n 2, 1) := by decide +kernel
theorem dX9_person_13 : decode cX9_person 13 = .ok (.aload_n 0, 1) := by decide +kernel
theorem dX9_person_14 : decode cX9_person 14 = .ok (.getfield 10, 3) := by decide +kernel
theorem dX9_person_17 : decode cX9_person 17 = .ok (.getfield 65, 3) := by decide +kernel
theorem dX9_person_20 : decode cX9_person 20 = .ok (.getfield 69, 3) := by decide +kernel
theorem dX9_person_23 : decode cX9_person 23 = .ok (.if_icmp .lt 9, 3) := by decide +kernel
theorem dX9_person_26 : decode cX9_person 26 = .ok (.aload_n 0, 1) := by decide +kernel
theorem dX9_person_27 : decode cX9_person 27 = .ok (.iconst 1, 1) := by decide +kernel
theorem dX9_person_28 : decode cX9_person 28 = .ok (.invokevirtual 74, 3) := by decide +kernel
theorem dX9_person_31 : decode cX9_person 31 = .ok (.ireturn, 1) := by decide +kernel
theorem dX9_person_32 : decode cX9_person 32 = .ok (.aload_n 0, 1) := by decide +kernel
theorem dX9_person_33 : decode cX9_person 33 = .ok (.getfield 10, 3) := by decide +kernel
theorem dX9_person_36 : decode cX9_person 36 = .ok (.getfield 65, 3) := by decide +kernel
theorem dX9_person_39 : decode cX9_person 39 = .ok (.getfield 69, 3) := by decide +kernel
theorem dX9_person_42 : decode cX9_person 42 = .ok (.bipush 8, 2) := by decide +kernel
theorem dX9_person_44 : decode cX9_person 44 = .ok (.if_icmp .lt 9, 3) := by decide +kernel
theorem dX9_person_47 : decode cX9_person 47 = .ok (.aload_n 0, 1) := by decide +kernel
theorem dX9_person_48 : decode cX9_person 48 = .ok (.iconst 4, 1) := by decide +kernel
theorem dX9_person_49 : decode cX9_person 49 = .ok (.invokevirtual 74, 3) := by decide +kernel
theorem dX9_person_52 : decode cX9_person 52 = .ok (.ireturn, 1) := by decide +kernel
theorem dX9_person_53 : decode cX9_person 53 = .ok (.aload_n 0, 1) := by decide +kernel
theorem dX9_person_54 : decode cX9_person 54 = .ok (.getfield 10, 3) := by decide +kernel
theorem dX9_person_57 : decode cX9_person 57 = .ok (.getfield 65, 3) := by decide +kernel
theorem dX9_person_60 : decode cX9_person 60 = .ok (.iload_n 1, 1) := by decide +kernel
theorem dX9_person_61 : decode cX9_person 61 = .ok (.bipush 10, 2) := by decide +kernel
theorem dX9_person_63 : decode cX9_person 63 = .ok (.idiv, 1) := by decide +kernel
theorem dX9_person_64 : decode cX9_person 64 = .ok (.iload_n 1, 1) := by decide +kernel
theorem dX9_person_65 : decode cX9_person 65 = .ok (.bipush 10, 2) := by decide +kernel
theorem dX9_person_67 : decode cX9_person 67 = .ok (.irem, 1) := by decide +kernel
theorem dX9_person_68 : decode cX9_person 68 = .ok (.iload_n 2, 1) := by decide +kernel
theorem dX9_person_69 : decode cX9_person 69 = .ok (.invokevirtual 78, 3) := by decide +kernel
theorem dX9_person_72 : decode cX9_person 72 = .ok (.ireturn, 1) := by decide +kernel
theorem dX9_personIs_0 : decode cX9_personIs 0 = .ok (.aload_n 0, 1) := by decide +kernel
theorem dX9_personIs_1 : decode cX9_personIs 1 = .ok (.getfield 10, 3) := by decide +kernel
theorem dX9_personIs_4 : decode cX9_personIs 4 = .ok (.getfield 65, 3) := by decide +kernel
theorem dX9_personIs_7 : decode cX9_personIs 7 = .ok (.iload_n 1, 1) := by decide +kernel
theorem dX9_personIs_8 : decode cX9_personIs 8 = .ok (.invokevirtual 82, 3) := by decide +kernel
theorem dX9_personIs_11 : decode cX9_personIs 11 = .ok (.ifCond .ne 9, 3) := by decide +kernel
theorem dX9_personIs_14 : decode cX9_personIs 14 = .ok (.aload_n 0, 1) := by decide +kernel
theorem dX9_personIs_15 : decode cX9_personIs 15 = .ok (.iconst 1, 1) := by decide +kernel
theorem dX9_personIs_16 : decode cX9_personIs 16 = .ok (.invokevirtual 74, 3) := by decide +kernel
theorem dX9_personIs_19 : decode cX9_personIs 19 = .ok (.ireturn, 1) := by decide +kernel
theorem dX9_personIs_20 : decode cX9_personIs 20 = .ok (.iload_n 2, 1) := by decide +kernel
theorem dX9_personIs_21 : decode cX9_personIs 21 = .ok (.tableswitch 120 0 5 #[39, 52, 65, 78, 91, 104], 39) := by decide +kernel
theorem dX9_personIs_60 : decode cX9_personIs 60 = .ok (.aload_n 0, 1) := by decide +kernel
theorem dX9_personIs_61 : decode cX9_personIs 61 = .ok (.getfield 10, 3) := by decide +kernel
theorem dX9_personIs_64 : decode cX9_personIs 64 = .ok (.getfield 65, 3) := by decide +kernel
theorem dX9_personIs_67 : decode cX9_personIs 67 = .ok (.getfield 85, 3) := by decide +kernel
theorem dX9_personIs_70 : decode cX9_personIs 70 = .ok (.iload_n 1, 1) := by decide +kernel
theorem dX9_personIs_71 : decode cX9_personIs 71 = .ok (.iaload, 1) := by decide +kernel
theorem dX9_personIs_72 : decode cX9_personIs 72 = .ok (.ireturn, 1) := by decide +kernel
theorem dX9_personIs_73 : decode cX9_personIs 73 = .ok (.aload_n 0, 1) := by decide +kernel
theorem dX9_personIs_74 : decode cX9_personIs 74 = .ok (.getfield 10, 3) := by decide +kernel
theorem dX9_personIs_77 : decode cX9_personIs 77 = .ok (.getfield 65, 3) := by decide +kernel
theorem dX9_personIs_80 : decode cX9_personIs 80 = .ok (.getfield 88, 3) := by decide +kernel
theorem dX9_personIs_83 : decode cX9_personIs 83 = .ok (.iload_n 1, 1) := by decide +kernel
theorem dX9_personIs_84 : decode cX9_personIs 84 = .ok (.iaload, 1) := by decide +kernel
theorem dX9_personIs_85 : decode cX9_personIs 85 = .ok (.ireturn, 1) := by decide +kernel
theorem dX9_personIs_86 : decode cX9_personIs 86 = .ok (.aload_n 0, 1) := by decide +kernel
theorem dX9_personIs_87 : decode cX9_personIs 87 = .ok (.getfield 10, 3) := by decide +kernel
theorem dX9_personIs_90 : decode cX9_personIs 90 = .ok (.getfield 65, 3) := by decide +kernel
theorem dX9_personIs_93 : decode cX9_personIs 93 = .ok (.getfield 91, 3) := by decide +kernel
theorem dX9_personIs_96 : decode cX9_personIs 96 = .ok (.iload_n 1, 1) := by decide +kernel
theorem dX9_personIs_97 : decode cX9_personIs 97 = .ok (.iaload, 1) := by decide +kernel
theorem dX9_personIs_98 : decode cX9_personIs 98 = .ok (.ireturn, 1) := by decide +kernel
theorem dX9_personIs_99 : decode cX9_personIs 99 = .ok (.aload_n 0, 1) := by decide +kernel
theorem dX9_personIs_100 : decode cX9_personIs 100 = .ok (.getfield 10, 3) := by decide +kernel
theorem dX9_personIs_103 : decode cX9_personIs 103 = .ok (.getfield 65, 3) := by decide +kernel
theorem dX9_personIs_106 : decode cX9_personIs 106 = .ok (.getfield 94, 3) := by decide +kernel
theorem dX9_personIs_109 : decode cX9_personIs 109 = .ok (.iload_n 1, 1) := by decide +kernel
theorem dX9_personIs_110 : decode cX9_personIs 110 = .ok (.iaload, 1) := by decide +kernel
theorem dX9_personIs_111 : decode cX9_personIs 111 = .ok (.ireturn, 1) := by decide +kernel
theorem dX9_personIs_112 : decode cX9_personIs 112 = .ok (.aload_n 0, 1) := by decide +kernel
theorem dX9_personIs_113 : decode cX9_personIs 113 = .ok (.getfield 10, 3) := by decide +kernel
theorem dX9_personIs_116 : decode cX9_personIs 116 = .ok (.getfield 97, 3) := by decide +kernel
theorem dX9_personIs_119 : decode cX9_personIs 119 = .ok (.getfield 100, 3) := by decide +kernel
theorem dX9_personIs_122 : decode cX9_personIs 122 = .ok (.iload_n 1, 1) := by decide +kernel
theorem dX9_personIs_123 : decode cX9_personIs 123 = .ok (.iaload, 1) := by decide +kernel
theorem dX9_personIs_124 : decode cX9_personIs 124 = .ok (.ireturn, 1) := by decide +kernel
theorem dX9_personIs_125 : decode cX9_personIs 125 = .ok (.aload_n 0, 1) := by decide +kernel
theorem dX9_personIs_126 : decode cX9_personIs 126 = .ok (.getfield 10, 3) := by decide +kernel
theorem dX9_personIs_129 : decode cX9_personIs 129 = .ok (.iload_n 1, 1) := by decide +kernel
theorem dX9_personIs_130 : decode cX9_personIs 130 = .ok (.aload_n 0, 1) := by decide +kernel
theorem dX9_personIs_131 : decode cX9_personIs 131 = .ok (.getfield 10, 3) := by decide +kernel
theorem dX9_personIs_134 : decode cX9_personIs 134 = .ok (.getfield 97, 3) := by decide +kernel
theorem dX9_personIs_137 : decode cX9_personIs 137 = .ok (.invokevirtual 103, 3) := by decide +kernel
theorem dX9_personIs_140 : decode cX9_personIs 140 = .ok (.ireturn, 1) := by decide +kernel
theorem dX9_personIs_141 : decode cX9_personIs 141 = .ok (.aload_n 0, 1) := by decide +kernel
theorem dX9_personIs_142 : decode cX9_personIs 142 = .ok (.iconst 1, 1) := by decide +kernel
theorem dX9_personIs_143 : decode cX9_personIs 143 = .ok (.invokevirtual 74, 3) := by decide +kernel
theorem dX9_personIs_146 : decode cX9_personIs 146 = .ok (.ireturn, 1) := by decide +kernel
theorem dX9_become_0 : decode cX9_become 0 = .ok (.aload_n 0, 1) := by decide +kernel
theorem dX9_become_1 : decode cX9_become 1 = .ok (.getfield 10, 3) := by decide +kernel
theorem dX9_become_4 : decode cX9_become 4 = .ok (.getfield 65, 3) := by decide +kernel
theorem dX9_become_7 : decode cX9_become 7 = .ok (.iload_n 1, 1) := by decide +kernel
theorem dX9_become_8 : decode cX9_become 8 = .ok (.invokevirtual 82, 3) := by decide +kernel
theorem dX9_become_11 : decode cX9_become 11 = .ok (.ifCond .eq 10, 3) := by decide +kernel
theorem dX9_become_14 : decode cX9_become 14 = .ok (.iload_n 2, 1) := by decide +kernel
theorem dX9_become_15 : decode cX9_become 15 = .ok (.invokestatic 61, 3) := by decide +kernel
theorem dX9_become_18 : decode cX9_become 18 = .ok (.ifCond .ne 9, 3) := by decide +kernel
theorem dX9_become_21 : decode cX9_become 21 = .ok (.aload_n 0, 1) := by decide +kernel
theorem dX9_become_22 : decode cX9_become 22 = .ok (.iconst 1, 1) := by decide +kernel
theorem dX9_become_23 : decode cX9_become 23 = .ok (.invokevirtual 74, 3) := by decide +kernel
theorem dX9_become_26 : decode cX9_become 26 = .ok (.ireturn, 1) := by decide +kernel
theorem dX9_become_27 : decode cX9_become 27 = .ok (.aload_n 0, 1) := by decide +kernel
theorem dX9_become_28 : decode cX9_become 28 = .ok (.getfield 10, 3) := by decide +kernel
theorem dX9_become_31 : decode cX9_become 31 = .ok (.getfield 65, 3) := by decide +kernel
theorem dX9_become_34 : decode cX9_become 34 = .ok (.getfield 85, 3) := by decide +kernel
theorem dX9_become_37 : decode cX9_become 37 = .ok (.iload_n 1, 1) := by decide +kernel
theorem dX9_become_38 : decode cX9_become 38 = .ok (.iaload, 1) := by decide +kernel
theorem dX9_become_39 : decode cX9_become 39 = .ok (.istore_n 3, 1) := by decide +kernel
theorem dX9_become_40 : decode cX9_become 40 = .ok (.aload_n 0, 1) := by decide +kernel
theorem dX9_become_41 : decode cX9_become 41 = .ok (.getfield 10, 3) := by decide +kernel
theorem dX9_become_44 : decode cX9_become 44 = .ok (.getfield 65, 3) := by decide +kernel
theorem dX9_become_47 : decode cX9_become 47 = .ok (.getfield 85, 3) := by decide +kernel
theorem dX9_become_50 : decode cX9_become 50 = .ok (.iload_n 1, 1) := by decide +kernel
theorem dX9_become_51 : decode cX9_become 51 = .ok (.iload_n 2, 1) := by decide +kernel
theorem dX9_become_52 : decode cX9_become 52 = .ok (.bipush 10, 2) := by decide +kernel
theorem dX9_become_54 : decode cX9_become 54 = .ok (.idiv, 1) := by decide +kernel
theorem dX9_become_55 : decode cX9_become 55 = .ok (.iastore, 1) := by decide +kernel
theorem dX9_become_56 : decode cX9_become 56 = .ok (.aload_n 0, 1) := by decide +kernel
theorem dX9_become_57 : decode cX9_become 57 = .ok (.getfield 10, 3) := by decide +kernel
theorem dX9_become_60 : decode cX9_become 60 = .ok (.getfield 65, 3) := by decide +kernel
theorem dX9_become_63 : decode cX9_become 63 = .ok (.getfield 88, 3) := by decide +kernel
theorem dX9_become_66 : decode cX9_become 66 = .ok (.iload_n 1, 1) := by decide +kernel
theorem dX9_become_67 : decode cX9_become 67 = .ok (.iload_n 2, 1) := by decide +kernel
theorem dX9_become_68 : decode cX9_become 68 = .ok (.bipush 10, 2) := by decide +kernel
theorem dX9_become_70 : decode cX9_become 70 = .ok (.irem, 1) := by decide +kernel
theorem dX9_become_71 : decode cX9_become 71 = .ok (.iastore, 1) := by decide +kernel
theorem dX9_become_72 : decode cX9_become 72 = .ok (.iload_n 3, 1) := by decide +kernel
theorem dX9_become_73 : decode cX9_become 73 = .ok (.ireturn, 1) := by decide +kernel
theorem dX9_as_0 : decode cX9_as 0 = .ok (.aload_n 0, 1) := by decide +kernel
theorem dX9_as_1 : decode cX9_as 1 = .ok (.getfield 10, 3) := by decide +kernel
theorem dX9_as_4 : decode cX9_as 4 = .ok (.getfield 65, 3) := by decide +kernel
theorem dX9_as_7 : decode cX9_as 7 = .ok (.iload_n 1, 1) := by decide +kernel
theorem dX9_as_8 : decode cX9_as 8 = .ok (.invokevirtual 82, 3) := by decide +kernel
theorem dX9_as_11 : decode cX9_as 11 = .ok (.ifCond .eq 10, 3) := by decide +kernel
theorem dX9_as_14 : decode cX9_as 14 = .ok (.iload_n 2, 1) := by decide +kernel
theorem dX9_as_15 : decode cX9_as 15 = .ok (.invokestatic 107, 3) := by decide +kernel
theorem dX9_as_18 : decode cX9_as 18 = .ok (.ifCond .ne 9, 3) := by decide +kernel
theorem dX9_as_21 : decode cX9_as 21 = .ok (.aload_n 0, 1) := by decide +kernel
theorem dX9_as_22 : decode cX9_as 22 = .ok (.iconst 1, 1) := by decide +kernel
theorem dX9_as_23 : decode cX9_as 23 = .ok (.invokevirtual 74, 3) := by decide +kernel
theorem dX9_as_26 : decode cX9_as 26 = .ok (.ireturn, 1) := by decide +kernel
theorem dX9_as_27 : decode cX9_as 27 = .ok (.aload_n 0, 1) := by decide +kernel
theorem dX9_as_28 : decode cX9_as 28 = .ok (.getfield 10, 3) := by decide +kernel
theorem dX9_as_31 : decode cX9_as 31 = .ok (.getfield 65, 3) := by decide +kernel
theorem dX9_as_34 : decode cX9_as 34 = .ok (.getfield 85, 3) := by decide +kernel
theorem dX9_as_37 : decode cX9_as 37 = .ok (.iload_n 1, 1) := by decide +kernel
theorem dX9_as_38 : decode cX9_as 38 = .ok (.iaload, 1) := by decide +kernel
theorem dX9_as_39 : decode cX9_as 39 = .ok (.iload_n 2, 1) := by decide +kernel
theorem dX9_as_40 : decode cX9_as 40 = .ok (.invokestatic 112, 3) := by decide +kernel
theorem dX9_as_43 : decode cX9_as 43 = .ok (.ifCond .ne 9, 3) := by decide +kernel
theorem dX9_as_46 : decode cX9_as 46 = .ok (.aload_n 0, 1) := by decide +kernel
theorem dX9_as_47 : decode cX9_as 47 = .ok (.iconst 5, 1) := by decide +kernel
theorem dX9_as_48 : decode cX9_as 48 = .ok (.invokevirtual 74, 3) := by decide +kernel
theorem dX9_as_51 : decode cX9_as 51 = .ok (.ireturn, 1) := by decide +kernel
theorem dX9_as_52 : decode cX9_as 52 = .ok (.aload_n 0, 1) := by decide +kernel
theorem dX9_as_53 : decode cX9_as 53 = .ok (.getfield 10, 3) := by decide +kernel
theorem dX9_as_56 : decode cX9_as 56 = .ok (.getfield 65, 3) := by decide +kernel
theorem dX9_as_59 : decode cX9_as 59 = .ok (.getfield 88, 3) := by decide +kernel
theorem dX9_as_62 : decode cX9_as 62 = .ok (.iload_n 1, 1) := by decide +kernel
theorem dX9_as_63 : decode cX9_as 63 = .ok (.iaload, 1) := by decide +kernel
theorem dX9_as_64 : decode cX9_as 64 = .ok (.ireturn, 1) := by decide +kernel
theorem dX9_descends_0 : decode cX9_descends 0 = .ok (.aload_n 0, 1) := by decide +kernel
theorem dX9_descends_1 : decode cX9_descends 1 = .ok (.getfield 10, 3) := by decide +kernel
theorem dX9_descends_4 : decode cX9_descends 4 = .ok (.getfield 65, 3) := by decide +kernel
theorem dX9_descends_7 : decode cX9_descends 7 = .ok (.iload_n 1, 1) := by decide +kernel
theorem dX9_descends_8 : decode cX9_descends 8 = .ok (.invokevirtual 82, 3) := by decide +kernel
theorem dX9_descends_11 : decode cX9_descends 11 = .ok (.ifCond .eq 13, 3) := by decide +kernel
theorem dX9_descends_14 : decode cX9_descends 14 = .ok (.iload_n 2, 1) := by decide +kernel
theorem dX9_descends_15 : decode cX9_descends 15 = .ok (.iconst (-1), 1) := by decide +kernel
theorem dX9_descends_16 : decode cX9_descends 16 = .ok (.if_icmp .lt 8, 3) := by decide +kernel
theorem dX9_descends_19 : decode cX9_descends 19 = .ok (.iload_n 2, 1) := by decide +kernel
theorem dX9_descends_20 : decode cX9_descends 20 = .ok (.iload_n 1, 1) := by decide +kernel
theorem dX9_descends_21 : decode cX9_descends 21 = .ok (.if_icmp .lt 9, 3) := by decide +kernel
theorem dX9_descends_24 : decode cX9_descends 24 = .ok (.aload_n 0, 1) := by decide +kernel
theorem dX9_descends_25 : decode cX9_descends 25 = .ok (.iconst 1, 1) := by decide +kernel
theorem dX9_descends_26 : decode cX9_descends 26 = .ok (.invokevirtual 74, 3) := by decide +kernel
theorem dX9_descends_29 : decode cX9_descends 29 = .ok (.ireturn, 1) := by decide +kernel
theorem dX9_descends_30 : decode cX9_descends 30 = .ok (.aload_n 0, 1) := by decide +kernel
theorem dX9_descends_31 : decode cX9_descends 31 = .ok (.getfield 10, 3) := by decide +kernel
theorem dX9_descends_34 : decode cX9_descends 34 = .ok (.getfield 65, 3) := by decide +kernel
theorem dX9_descends_37 : decode cX9_descends 37 = .ok (.getfield 91, 3) := by decide +kernel
theorem dX9_descends_40 : decode cX9_descends 40 = .ok (.iload_n 1, 1) := by decide +kernel
theorem dX9_descends_41 : decode cX9_descends 41 = .ok (.iaload, 1) := by decide +kernel
theorem dX9_descends_42 : decode cX9_descends 42 = .ok (.istore_n 3, 1) := by decide +kernel
theorem dX9_descends_43 : decode cX9_descends 43 = .ok (.aload_n 0, 1) := by decide +kernel
theorem dX9_descends_44 : decode cX9_descends 44 = .ok (.getfield 10, 3) := by decide +kernel
theorem dX9_descends_47 : decode cX9_descends 47 = .ok (.getfield 65, 3) := by decide +kernel
theorem dX9_descends_50 : decode cX9_descends 50 = .ok (.iload_n 1, 1) := by decide +kernel
theorem dX9_descends_51 : decode cX9_descends 51 = .ok (.iload_n 2, 1) := by decide +kernel
theorem dX9_descends_52 : decode cX9_descends 52 = .ok (.invokevirtual 116, 3) := by decide +kernel
theorem dX9_descends_55 : decode cX9_descends 55 = .ok (.iload_n 3, 1) := by decide +kernel
theorem dX9_descends_56 : decode cX9_descends 56 = .ok (.ireturn, 1) := by decide +kernel
theorem dX9_marries_0 : decode cX9_marries 0 = .ok (.aload_n 0, 1) := by decide +kernel
theorem dX9_marries_1 : decode cX9_marries 1 = .ok (.getfield 10, 3) := by decide +kernel
theorem dX9_marries_4 : decode cX9_marries 4 = .ok (.getfield 65, 3) := by decide +kernel
theorem dX9_marries_7 : decode cX9_marries 7 = .ok (.iload_n 1, 1) := by decide +kernel
theorem dX9_marries_8 : decode cX9_marries 8 = .ok (.invokevirtual 82, 3) := by decide +kernel
theorem dX9_marries_11 : decode cX9_marries 11 = .ok (.ifCond .eq 22, 3) := by decide +kernel
theorem dX9_marries_14 : decode cX9_marries 14 = .ok (.aload_n 0, 1) := by decide +kernel
theorem dX9_marries_15 : decode cX9_marries 15 = .ok (.getfield 10, 3) := by decide +kernel
theorem dX9_marries_18 : decode cX9_marries 18 = .ok (.getfield 65, 3) := by decide +kernel
theorem dX9_marries_21 : decode cX9_marries 21 = .ok (.iload_n 2, 1) := by decide +kernel
theorem dX9_marries_22 : decode cX9_marries 22 = .ok (.invokevirtual 82, 3) := by decide +kernel
theorem dX9_marries_25 : decode cX9_marries 25 = .ok (.ifCond .eq 8, 3) := by decide +kernel
theorem dX9_marries_28 : decode cX9_marries 28 = .ok (.iload_n 1, 1) := by decide +kernel
theorem dX9_marries_29 : decode cX9_marries 29 = .ok (.iload_n 2, 1) := by decide +kernel
theorem dX9_marries_30 : decode cX9_marries 30 = .ok (.if_icmp .ne 9, 3) := by decide +kernel
theorem dX9_marries_33 : decode cX9_marries 33 = .ok (.aload_n 0, 1) := by decide +kernel
theorem dX9_marries_34 : decode cX9_marries 34 = .ok (.iconst 1, 1) := by decide +kernel
theorem dX9_marries_35 : decode cX9_marries 35 = .ok (.invokevirtual 74, 3) := by decide +kernel
theorem dX9_marries_38 : decode cX9_marries 38 = .ok (.ireturn, 1) := by decide +kernel
theorem dX9_marries_39 : decode cX9_marries 39 = .ok (.aload_n 0, 1) := by decide +kernel
theorem dX9_marries_40 : decode cX9_marries 40 = .ok (.getfield 10, 3) := by decide +kernel
theorem dX9_marries_43 : decode cX9_marries 43 = .ok (.getfield 65, 3) := by decide +kernel
theorem dX9_marries_46 : decode cX9_marries 46 = .ok (.iload_n 1, 1) := by decide +kernel
theorem dX9_marries_47 : decode cX9_marries 47 = .ok (.invokevirtual 120, 3) := by decide +kernel
theorem dX9_marries_50 : decode cX9_marries 50 = .ok (.ifCond .eq 17, 3) := by decide +kernel
theorem dX9_marries_53 : decode cX9_marries 53 = .ok (.aload_n 0, 1) := by decide +kernel
theorem dX9_marries_54 : decode cX9_marries 54 = .ok (.getfield 10, 3) := by decide +kernel
theorem dX9_marries_57 : decode cX9_marries 57 = .ok (.getfield 65, 3) := by decide +kernel
theorem dX9_marries_60 : decode cX9_marries 60 = .ok (.iload_n 2, 1) := by decide +kernel
theorem dX9_marries_61 : decode cX9_marries 61 = .ok (.invokevirtual 120, 3) := by decide +kernel
theorem dX9_marries_64 : decode cX9_marries 64 = .ok (.ifCond .ne 9, 3) := by decide +kernel
theorem dX9_marries_67 : decode cX9_marries 67 = .ok (.aload_n 0, 1) := by decide +kernel
theorem dX9_marries_68 : decode cX9_marries 68 = .ok (.iconst 3, 1) := by decide +kernel
theorem dX9_marries_69 : decode cX9_marries 69 = .ok (.invokevirtual 74, 3) := by decide +kernel
theorem dX9_marries_72 : decode cX9_marries 72 = .ok (.ireturn, 1) := by decide +kernel
theorem dX9_marries_73 : decode cX9_marries 73 = .ok (.aload_n 0, 1) := by decide +kernel
theorem dX9_marries_74 : decode cX9_marries 74 = .ok (.getfield 10, 3) := by decide +kernel
theorem dX9_marries_77 : decode cX9_marries 77 = .ok (.getfield 65, 3) := by decide +kernel
theorem dX9_marries_80 : decode cX9_marries 80 = .ok (.iload_n 1, 1) := by decide +kernel
theorem dX9_marries_81 : decode cX9_marries 81 = .ok (.iload_n 2, 1) := by decide +kernel
theorem dX9_marries_82 : decode cX9_marries 82 = .ok (.invokevirtual 123, 3) := by decide +kernel
theorem dX9_marries_85 : decode cX9_marries 85 = .ok (.aload_n 0, 1) := by decide +kernel
theorem dX9_marries_86 : decode cX9_marries 86 = .ok (.getfield 10, 3) := by decide +kernel
theorem dX9_marries_89 : decode cX9_marries 89 = .ok (.getfield 65, 3) := by decide +kernel
theorem dX9_marries_92 : decode cX9_marries 92 = .ok (.iload_n 1, 1) := by decide +kernel
theorem dX9_marries_93 : decode cX9_marries 93 = .ok (.invokevirtual 126, 3) := by decide +kernel
theorem dX9_marries_96 : decode cX9_marries 96 = .ok (.ireturn, 1) := by decide +kernel
theorem dX9_parts_0 : decode cX9_parts 0 = .ok (.aload_n 0, 1) := by decide +kernel
theorem dX9_parts_1 : decode cX9_parts 1 = .ok (.getfield 10, 3) := by decide +kernel
theorem dX9_parts_4 : decode cX9_parts 4 = .ok (.getfield 65, 3) := by decide +kernel
theorem dX9_parts_7 : decode cX9_parts 7 = .ok (.iload_n 1, 1) := by decide +kernel
theorem dX9_parts_8 : decode cX9_parts 8 = .ok (.invokevirtual 82, 3) := by decide +kernel
theorem dX9_parts_11 : decode cX9_parts 11 = .ok (.ifCond .ne 9, 3) := by decide +kernel
theorem dX9_parts_14 : decode cX9_parts 14 = .ok (.aload_n 0, 1) := by decide +kernel
theorem dX9_parts_15 : decode cX9_parts 15 = .ok (.iconst 1, 1) := by decide +kernel
theorem dX9_parts_16 : decode cX9_parts 16 = .ok (.invokevirtual 74, 3) := by decide +kernel
theorem dX9_parts_19 : decode cX9_parts 19 = .ok (.ireturn, 1) := by decide +kernel
theorem dX9_parts_20 : decode cX9_parts 20 = .ok (.aload_n 0, 1) := by decide +kernel
theorem dX9_parts_21 : decode cX9_parts 21 = .ok (.getfield 10, 3) := by decide +kernel
theorem dX9_parts_24 : decode cX9_parts 24 = .ok (.getfield 65, 3) := by decide +kernel
theorem dX9_parts_27 : decode cX9_parts 27 = .ok (.iload_n 1, 1) := by decide +kernel
theorem dX9_parts_28 : decode cX9_parts 28 = .ok (.invokevirtual 120, 3) := by decide +kernel
theorem dX9_parts_31 : decode cX9_parts 31 = .ok (.ifCond .eq 9, 3) := by decide +kernel
theorem dX9_parts_34 : decode cX9_parts 34 = .ok (.aload_n 0, 1) := by decide +kernel
theorem dX9_parts_35 : decode cX9_parts 35 = .ok (.iconst 2, 1) := by decide +kernel
theorem dX9_parts_36 : decode cX9_parts 36 = .ok (.invokevirtual 74, 3) := by decide +kernel
theorem dX9_parts_39 : decode cX9_parts 39 = .ok (.ireturn, 1) := by decide +kernel
theorem dX9_parts_40 : decode cX9_parts 40 = .ok (.aload_n 0, 1) := by decide +kernel
theorem dX9_parts_41 : decode cX9_parts 41 = .ok (.getfield 10, 3) := by decide +kernel
theorem dX9_parts_44 : decode cX9_parts 44 = .ok (.getfield 65, 3) := by decide +kernel
theorem dX9_parts_47 : decode cX9_parts 47 = .ok (.getfield 94, 3) := by decide +kernel
theorem dX9_parts_50 : decode cX9_parts 50 = .ok (.iload_n 1, 1) := by decide +kernel
theorem dX9_parts_51 : decode cX9_parts 51 = .ok (.iaload, 1) := by decide +kernel
theorem dX9_parts_52 : decode cX9_parts 52 = .ok (.istore_n 2, 1) := by decide +kernel
theorem dX9_parts_53 : decode cX9_parts 53 = .ok (.aload_n 0, 1) := by decide +kernel
theorem dX9_parts_54 : decode cX9_parts 54 = .ok (.getfield 10, 3) := by decide +kernel
theorem dX9_parts_57 : decode cX9_parts 57 = .ok (.getfield 65, 3) := by decide +kernel
theorem dX9_parts_60 : decode cX9_parts 60 = .ok (.iload_n 1, 1) := by decide +kernel
theorem dX9_parts_61 : decode cX9_parts 61 = .ok (.iload_n 2, 1) := by decide +kernel
theorem dX9_parts_62 : decode cX9_parts 62 = .ok (.invokevirtual 129, 3) := by decide +kernel
theorem dX9_parts_65 : decode cX9_parts 65 = .ok (.iload_n 2, 1) := by decide +kernel
theorem dX9_parts_66 : decode cX9_parts 66 = .ok (.ireturn, 1) := by decide +kernel
theorem dX9_steps_0 : decode cX9_steps 0 = .ok (.aload_n 0, 1) := by decide +kernel
theorem dX9_steps_1 : decode cX9_steps 1 = .ok (.getfield 10, 3) := by decide +kernel
theorem dX9_steps_4 : decode cX9_steps 4 = .ok (.getfield 65, 3) := by decide +kernel
theorem dX9_steps_7 : decode cX9_steps 7 = .ok (.iload_n 1, 1) := by decide +kernel
theorem dX9_steps_8 : decode cX9_steps 8 = .ok (.invokevirtual 82, 3) := by decide +kernel
theorem dX9_steps_11 : decode cX9_steps 11 = .ok (.ifCond .eq 17, 3) := by decide +kernel
theorem dX9_steps_14 : decode cX9_steps 14 = .ok (.aload_n 0, 1) := by decide +kernel
theorem dX9_steps_15 : decode cX9_steps 15 = .ok (.getfield 10, 3) := by decide +kernel
theorem dX9_steps_18 : decode cX9_steps 18 = .ok (.getfield 65, 3) := by decide +kernel
theorem dX9_steps_21 : decode cX9_steps 21 = .ok (.iload_n 2, 1) := by decide +kernel
theorem dX9_steps_22 : decode cX9_steps 22 = .ok (.invokevirtual 82, 3) := by decide +kernel
theorem dX9_steps_25 : decode cX9_steps 25 = .ok (.ifCond .ne 9, 3) := by decide +kernel
theorem dX9_steps_28 : decode cX9_steps 28 = .ok (.aload_n 0, 1) := by decide +kernel
theorem dX9_steps_29 : decode cX9_steps 29 = .ok (.iconst 1, 1) := by decide +kernel
theorem dX9_steps_30 : decode cX9_steps 30 = .ok (.invokevirtual 74, 3) := by decide +kernel
theorem dX9_steps_33 : decode cX9_steps 33 = .ok (.ireturn, 1) := by decide +kernel
theorem dX9_steps_34 : decode cX9_steps 34 = .ok (.aload_n 0, 1) := by decide +kernel
theorem dX9_steps_35 : decode cX9_steps 35 = .ok (.getfield 10, 3) := by decide +kernel
theorem dX9_steps_38 : decode cX9_steps 38 = .ok (.getfield 65, 3) := by decide +kernel
theorem dX9_steps_41 : decode cX9_steps 41 = .ok (.iload_n 1, 1) := by decide +kernel
theorem dX9_steps_42 : decode cX9_steps 42 = .ok (.iload_n 2, 1) := by decide +kernel
theorem dX9_steps_43 : decode cX9_steps 43 = .ok (.invokevirtual 132, 3) := by decide +kernel
theorem dX9_steps_46 : decode cX9_steps 46 = .ok (.ireturn, 1) := by decide +kernel
theorem dX9_lets_0 : decode cX9_lets 0 = .ok (.aload_n 0, 1) := by decide +kernel
theorem dX9_lets_1 : decode cX9_lets 1 = .ok (.getfield 10, 3) := by decide +kernel
theorem dX9_lets_4 : decode cX9_lets 4 = .ok (.getfield 65, 3) := by decide +kernel
theorem dX9_lets_7 : decode cX9_lets 7 = .ok (.iload_n 1, 1) := by decide +kernel
theorem dX9_lets_8 : decode cX9_lets 8 = .ok (.invokevirtual 82, 3) := by decide +kernel
theorem dX9_lets_11 : decode cX9_lets 11 = .ok (.ifCond .eq 17, 3) := by decide +kernel
theorem dX9_lets_14 : decode cX9_lets 14 = .ok (.aload_n 0, 1) := by decide +kernel
theorem dX9_lets_15 : decode cX9_lets 15 = .ok (.getfield 10, 3) := by decide +kernel
theorem dX9_lets_18 : decode cX9_lets 18 = .ok (.getfield 65, 3) := by decide +kernel
theorem dX9_lets_21 : decode cX9_lets 21 = .ok (.iload_n 2, 1) := by decide +kernel
theorem dX9_lets_22 : decode cX9_lets 22 = .ok (.invokevirtual 82, 3) := by decide +kernel
theorem dX9_lets_25 : decode cX9_lets 25 = .ok (.ifCond .ne 9, 3) := by decide +kernel
theorem dX9_lets_28 : decode cX9_lets 28 = .ok (.aload_n 0, 1) := by decide +kernel
theorem dX9_lets_29 : decode cX9_lets 29 = .ok (.iconst 1, 1) := by decide +kernel
theorem dX9_lets_30 : decode cX9_lets 30 = .ok (.invokevirtual 74, 3) := by decide +kernel
theorem dX9_lets_33 : decode cX9_lets 33 = .ok (.ireturn, 1) := by decide +kernel
theorem dX9_lets_34 : decode cX9_lets 34 = .ok (.aload_n 0, 1) := by decide +kernel
theorem dX9_lets_35 : decode cX9_lets 35 = .ok (.getfield 10, 3) := by decide +kernel
theorem dX9_lets_38 : decode cX9_lets 38 = .ok (.iload_n 1, 1) := by decide +kernel
theorem dX9_lets_39 : decode cX9_lets 39 = .ok (.iload_n 2, 1) := by decide +kernel
theorem dX9_lets_40 : decode cX9_lets 40 = .ok (.aload_n 0, 1) := by decide +kernel
theorem dX9_lets_41 : decode cX9_lets 41 = .ok (.getfield 10, 3) := by decide +kernel
theorem dX9_lets_44 : decode cX9_lets 44 = .ok (.getfield 97, 3) := by decide +kernel
theorem dX9_lets_47 : decode cX9_lets 47 = .ok (.invokevirtual 136, 3) := by decide +kernel
theorem dX9_lets_50 : decode cX9_lets 50 = .ok (.ireturn, 1) := by decide +kernel
theorem dX9_meets_0 : decode cX9_meets 0 = .ok (.iload_n 1, 1) := by decide +kernel
theorem dX9_meets_1 : decode cX9_meets 1 = .ok (.ifCond .lt 23, 3) := by decide +kernel
theorem dX9_meets_4 : decode cX9_meets 4 = .ok (.iload_n 1, 1) := by decide +kernel
theorem dX9_meets_5 : decode cX9_meets 5 = .ok (.bipush 6, 2) := by decide +kernel
theorem dX9_meets_7 : decode cX9_meets 7 = .ok (.if_icmp .ge 17, 3) := by decide +kernel
theorem dX9_meets_10 : decode cX9_meets 10 = .ok (.iload_n 2, 1) := by decide +kernel
theorem dX9_meets_11 : decode cX9_meets 11 = .ok (.invokestatic 140, 3) := by decide +kernel
theorem dX9_meets_14 : decode cX9_meets 14 = .ok (.ifCond .eq 10, 3) := by decide +kernel
theorem dX9_meets_17 : decode cX9_meets 17 = .ok (.iload_n 3, 1) := by decide +kernel
theorem dX9_meets_18 : decode cX9_meets 18 = .ok (.invokestatic 140, 3) := by decide +kernel
theorem dX9_meets_21 : decode cX9_meets 21 = .ok (.ifCond .ne 9, 3) := by decide +kernel
theorem dX9_meets_24 : decode cX9_meets 24 = .ok (.aload_n 0, 1) := by decide +kernel
theorem dX9_meets_25 : decode cX9_meets 25 = .ok (.iconst 1, 1) := by decide +kernel
theorem dX9_meets_26 : decode cX9_meets 26 = .ok (.invokevirtual 74, 3) := by decide +kernel
theorem dX9_meets_29 : decode cX9_meets 29 = .ok (.ireturn, 1) := by decide +kernel
theorem dX9_meets_30 : decode cX9_meets 30 = .ok (.aload_n 0, 1) := by decide +kernel
theorem dX9_meets_31 : decode cX9_meets 31 = .ok (.getfield 10, 3) := by decide +kernel
theorem dX9_meets_34 : decode cX9_meets 34 = .ok (.getfield 143, 3) := by decide +kernel
theorem dX9_meets_37 : decode cX9_meets 37 = .ok (.iload_n 1, 1) := by decide +kernel
theorem dX9_meets_38 : decode cX9_meets 38 = .ok (.iaload, 1) := by decide +kernel
theorem dX9_meets_39 : decode cX9_meets 39 = .ok (.bipush 10, 2) := by decide +kernel
theorem dX9_meets_41 : decode cX9_meets 41 = .ok (.imul, 1) := by decide +kernel
theorem dX9_meets_42 : decode cX9_meets 42 = .ok (.aload_n 0, 1) := by decide +kernel
theorem dX9_meets_43 : decode cX9_meets 43 = .ok (.getfield 10, 3) := by decide +kernel
theorem dX9_meets_46 : decode cX9_meets 46 = .ok (.getfield 146, 3) := by decide +kernel
theorem dX9_meets_49 : decode cX9_meets 49 = .ok (.iload_n 1, 1) := by decide +kernel
theorem dX9_meets_50 : decode cX9_meets 50 = .ok (.iaload, 1) := by decide +kernel
theorem dX9_meets_51 : decode cX9_meets 51 = .ok (.iadd, 1) := by decide +kernel
theorem dX9_meets_52 : decode cX9_meets 52 = .ok (.istore 4, 2) := by decide +kernel
theorem dX9_meets_54 : decode cX9_meets 54 = .ok (.aload_n 0, 1) := by decide +kernel
theorem dX9_meets_55 : decode cX9_meets 55 = .ok (.getfield 10, 3) := by decide +kernel
theorem dX9_meets_58 : decode cX9_meets 58 = .ok (.getfield 143, 3) := by decide +kernel
theorem dX9_meets_61 : decode cX9_meets 61 = .ok (.iload_n 1, 1) := by decide +kernel
theorem dX9_meets_62 : decode cX9_meets 62 = .ok (.iload_n 2, 1) := by decide +kernel
theorem dX9_meets_63 : decode cX9_meets 63 = .ok (.iastore, 1) := by decide +kernel
theorem dX9_meets_64 : decode cX9_meets 64 = .ok (.aload_n 0, 1) := by decide +kernel
theorem dX9_meets_65 : decode cX9_meets 65 = .ok (.getfield 10, 3) := by decide +kernel
theorem dX9_meets_68 : decode cX9_meets 68 = .ok (.getfield 146, 3) := by decide +kernel
theorem dX9_meets_71 : decode cX9_meets 71 = .ok (.iload_n 1, 1) := by decide +kernel
theorem dX9_meets_72 : decode cX9_meets 72 = .ok (.iload_n 3, 1) := by decide +kernel
theorem dX9_meets_73 : decode cX9_meets 73 = .ok (.iastore, 1) := by decide +kernel
theorem dX9_meets_74 : decode cX9_meets 74 = .ok (.iload 4, 2) := by decide +kernel
theorem dX9_meets_76 : decode cX9_meets 76 = .ok (.ireturn, 1) := by decide +kernel
theorem dX9_trade_0 : decode cX9_trade 0 = .ok (.iload_n 1, 1) := by decide +kernel
theorem dX9_trade_1 : decode cX9_trade 1 = .ok (.ifCond .lt 28, 3) := by decide +kernel
theorem dX9_trade_4 : decode cX9_trade 4 = .ok (.iload_n 1, 1) := by decide +kernel
theorem dX9_trade_5 : decode cX9_trade 5 = .ok (.iconst 1, 1) := by decide +kernel
theorem dX9_trade_6 : decode cX9_trade 6 = .ok (.if_icmp .gt 23, 3) := by decide +kernel
theorem dX9_trade_9 : decode cX9_trade 9 = .ok (.iload_n 2, 1) := by decide +kernel
theorem dX9_trade_10 : decode cX9_trade 10 = .ok (.ifCond .lt 19, 3) := by decide +kernel
theorem dX9_trade_13 : decode cX9_trade 13 = .ok (.iload_n 2, 1) := by decide +kernel
theorem dX9_trade_14 : decode cX9_trade 14 = .ok (.iload_n 1, 1) := by decide +kernel
theorem dX9_trade_15 : decode cX9_trade 15 = .ok (.ifCond .ne 9, 3) := by decide +kernel
theorem dX9_trade_18 : decode cX9_trade 18 = .ok (.sipush 999, 3) := by decide +kernel
theorem dX9_trade_21 : decode cX9_trade 21 = .ok (.goto 5, 3) := by decide +kernel
theorem dX9_trade_24 : decode cX9_trade 24 = .ok (.bipush 40, 2) := by decide +kernel
theorem dX9_trade_26 : decode cX9_trade 26 = .ok (.if_icmp .le 9, 3) := by decide +kernel
theorem dX9_trade_29 : decode cX9_trade 29 = .ok (.aload_n 0, 1) := by decide +kernel
theorem dX9_trade_30 : decode cX9_trade 30 = .ok (.iconst 1, 1) := by decide +kernel
theorem dX9_trade_31 : decode cX9_trade 31 = .ok (.invokevirtual 74, 3) := by decide +kernel
theorem dX9_trade_34 : decode cX9_trade 34 = .ok (.ireturn, 1) := by decide +kernel
theorem dX9_trade_35 : decode cX9_trade 35 = .ok (.iload_n 1, 1) := by decide +kernel
theorem dX9_trade_36 : decode cX9_trade 36 = .ok (.ifCond .ne 16, 3) := by decide +kernel
theorem dX9_trade_39 : decode cX9_trade 39 = .ok (.aload_n 0, 1) := by decide +kernel
theorem dX9_trade_40 : decode cX9_trade 40 = .ok (.getfield 10, 3) := by decide +kernel
theorem dX9_trade_43 : decode cX9_trade 43 = .ok (.getfield 97, 3) := by decide +kernel
theorem dX9_trade_46 : decode cX9_trade 46 = .ok (.getfield 149, 3) := by decide +kernel
theorem dX9_trade_49 : decode cX9_trade 49 = .ok (.goto 13, 3) := by decide +kernel
theorem dX9_trade_52 : decode cX9_trade 52 = .ok (.aload_n 0, 1) := by decide +kernel
theorem dX9_trade_53 : decode cX9_trade 53 = .ok (.getfield 10, 3) := by decide +kernel
theorem dX9_trade_56 : decode cX9_trade 56 = .ok (.getfield 97, 3) := by decide +kernel
theorem dX9_trade_59 : decode cX9_trade 59 = .ok (.getfield 152, 3) := by decide +kernel
theorem dX9_trade_62 : decode cX9_trade 62 = .ok (.istore_n 3, 1) := by decide +kernel
theorem dX9_trade_63 : decode cX9_trade 63 = .ok (.iload_n 1, 1) := by decide +kernel
theorem dX9_trade_64 : decode cX9_trade 64 = .ok (.ifCond .ne 17, 3) := by decide +kernel
theorem dX9_trade_67 : decode cX9_trade 67 = .ok (.aload_n 0, 1) := by decide +kernel
theorem dX9_trade_68 : decode cX9_trade 68 = .ok (.getfield 10, 3) := by decide +kernel
theorem dX9_trade_71 : decode cX9_trade 71 = .ok (.getfield 97, 3) := by decide +kernel
theorem dX9_trade_74 : decode cX9_trade 74 = .ok (.iload_n 2, 1) := by decide +kernel
theorem dX9_trade_75 : decode cX9_trade 75 = .ok (.putfield 149, 3) := by decide +kernel
theorem dX9_trade_78 : decode cX9_trade 78 = .ok (.goto 14, 3) := by decide +kernel
theorem dX9_trade_81 : decode cX9_trade 81 = .ok (.aload_n 0, 1) := by decide +kernel
theorem dX9_trade_82 : decode cX9_trade 82 = .ok (.getfield 10, 3) := by decide +kernel
theorem dX9_trade_85 : decode cX9_trade 85 = .ok (.getfield 97, 3) := by decide +kernel
theorem dX9_trade_88 : decode cX9_trade 88 = .ok (.iload_n 2, 1) := by decide +kernel
theorem dX9_trade_89 : decode cX9_trade 89 = .ok (.putfield 152, 3) := by decide +kernel
theorem dX9_trade_92 : decode cX9_trade 92 = .ok (.iload_n 3, 1) := by decide +kernel
theorem dX9_trade_93 : decode cX9_trade 93 = .ok (.ireturn, 1) := by decide +kernel
theorem dX9_feed_0 : decode cX9_feed 0 = .ok (.iload_n 3, 1) := by decide +kernel
theorem dX9_feed_1 : decode cX9_feed 1 = .ok (.iconst 1, 1) := by decide +kernel
theorem dX9_feed_2 : decode cX9_feed 2 = .ok (.if_icmp .lt 9, 3) := by decide +kernel
theorem dX9_feed_5 : decode cX9_feed 5 = .ok (.iload_n 3, 1) := by decide +kernel
theorem dX9_feed_6 : decode cX9_feed 6 = .ok (.bipush 8, 2) := by decide +kernel
theorem dX9_feed_8 : decode cX9_feed 8 = .ok (.if_icmp .le 9, 3) := by decide +kernel
theorem dX9_feed_11 : decode cX9_feed 11 = .ok (.aload_n 0, 1) := by decide +kernel
theorem dX9_feed_12 : decode cX9_feed 12 = .ok (.iconst 1, 1) := by decide +kernel
theorem dX9_feed_13 : decode cX9_feed 13 = .ok (.invokevirtual 74, 3) := by decide +kernel
theorem dX9_feed_16 : decode cX9_feed 16 = .ok (.ireturn, 1) := by decide +kernel
theorem dX9_feed_17 : decode cX9_feed 17 = .ok (.aload_n 0, 1) := by decide +kernel
theorem dX9_feed_18 : decode cX9_feed 18 = .ok (.getfield 10, 3) := by decide +kernel
theorem dX9_feed_21 : decode cX9_feed 21 = .ok (.getfield 28, 3) := by decide +kernel
theorem dX9_feed_24 : decode cX9_feed 24 = .ok (.iload_n 3, 1) := by decide +kernel
theorem dX9_feed_25 : decode cX9_feed 25 = .ok (.invokevirtual 155, 3) := by decide +kernel
theorem dX9_feed_28 : decode cX9_feed 28 = .ok (.ifCond .ne 9, 3) := by decide +kernel
theorem dX9_feed_31 : decode cX9_feed 31 = .ok (.aload_n 0, 1) := by decide +kernel
theorem dX9_feed_32 : decode cX9_feed 32 = .ok (.iconst 4, 1) := by decide +kernel
theorem dX9_feed_33 : decode cX9_feed 33 = .ok (.invokevirtual 74, 3) := by decide +kernel
theorem dX9_feed_36 : decode cX9_feed 36 = .ok (.ireturn, 1) := by decide +kernel
theorem dX9_feed_37 : decode cX9_feed 37 = .ok (.iconst 0, 1) := by decide +kernel
theorem dX9_feed_38 : decode cX9_feed 38 = .ok (.istore 4, 2) := by decide +kernel
theorem dX9_feed_40 : decode cX9_feed 40 = .ok (.iload 4, 2) := by decide +kernel
theorem dX9_feed_42 : decode cX9_feed 42 = .ok (.iload_n 3, 1) := by decide +kernel
theorem dX9_feed_43 : decode cX9_feed 43 = .ok (.if_icmp .ge 31, 3) := by decide +kernel
theorem dX9_feed_46 : decode cX9_feed 46 = .ok (.aload_n 0, 1) := by decide +kernel
theorem dX9_feed_47 : decode cX9_feed 47 = .ok (.getfield 10, 3) := by decide +kernel
theorem dX9_feed_50 : decode cX9_feed 50 = .ok (.getfield 28, 3) := by decide +kernel
theorem dX9_feed_53 : decode cX9_feed 53 = .ok (.lload_n 1, 1) := by decide +kernel
theorem dX9_feed_54 : decode cX9_feed 54 = .ok (.bipush 8, 2) := by decide +kernel
theorem dX9_feed_56 : decode cX9_feed 56 = .ok (.iload 4, 2) := by decide +kernel
theorem dX9_feed_58 : decode cX9_feed 58 = .ok (.imul, 1) := by decide +kernel
theorem dX9_feed_59 : decode cX9_feed 59 = .ok (.lushr, 1) := by decide +kernel
theorem dX9_feed_60 : decode cX9_feed 60 = .ok (.l2i, 1) := by decide +kernel
theorem dX9_feed_61 : decode cX9_feed 61 = .ok (.sipush 255, 3) := by decide +kernel
theorem dX9_feed_64 : decode cX9_feed 64 = .ok (.iand, 1) := by decide +kernel
theorem dX9_feed_65 : decode cX9_feed 65 = .ok (.invokevirtual 160, 3) := by decide +kernel
theorem dX9_feed_68 : decode cX9_feed 68 = .ok (.iinc 4 1, 3) := by decide +kernel
theorem dX9_feed_71 : decode cX9_feed 71 = .ok (.goto (-31), 3) := by decide +kernel
theorem dX9_feed_74 : decode cX9_feed 74 = .ok (.aload_n 0, 1) := by decide +kernel
theorem dX9_feed_75 : decode cX9_feed 75 = .ok (.getfield 10, 3) := by decide +kernel
theorem dX9_feed_78 : decode cX9_feed 78 = .ok (.getfield 28, 3) := by decide +kernel
theorem dX9_feed_81 : decode cX9_feed 81 = .ok (.invokevirtual 163, 3) := by decide +kernel
theorem dX9_feed_84 : decode cX9_feed 84 = .ok (.ireturn, 1) := by decide +kernel
theorem dX9_text_0 : decode cX9_text 0 = .ok (.iload_n 1, 1) := by decide +kernel
theorem dX9_text_1 : decode cX9_text 1 = .ok (.invokestatic 167, 3) := by decide +kernel
theorem dX9_text_4 : decode cX9_text 4 = .ok (.ifCond .ne 9, 3) := by decide +kernel
theorem dX9_text_7 : decode cX9_text 7 = .ok (.aload_n 0, 1) := by decide +kernel
theorem dX9_text_8 : decode cX9_text 8 = .ok (.iconst 1, 1) := by decide +kernel
theorem dX9_text_9 : decode cX9_text 9 = .ok (.invokevirtual 74, 3) := by decide +kernel
theorem dX9_text_12 : decode cX9_text 12 = .ok (.ireturn, 1) := by decide +kernel
theorem dX9_text_13 : decode cX9_text 13 = .ok (.aload_n 0, 1) := by decide +kernel
theorem dX9_text_14 : decode cX9_text 14 = .ok (.getfield 35, 3) := by decide +kernel
theorem dX9_text_17 : decode cX9_text 17 = .ok (.iload_n 1, 1) := by decide +kernel
theorem dX9_text_18 : decode cX9_text 18 = .ok (.invokevirtual 170, 3) := by decide +kernel
theorem dX9_text_21 : decode cX9_text 21 = .ok (.istore_n 2, 1) := by decide +kernel
theorem dX9_text_22 : decode cX9_text 22 = .ok (.aload_n 0, 1) := by decide +kernel
theorem dX9_text_23 : decode cX9_text 23 = .ok (.getfield 10, 3) := by decide +kernel
theorem dX9_text_26 : decode cX9_text 26 = .ok (.getfield 28, 3) := by decide +kernel
theorem dX9_text_29 : decode cX9_text 29 = .ok (.invokevirtual 173, 3) := by decide +kernel
theorem dX9_text_32 : decode cX9_text 32 = .ok (.iload_n 2, 1) := by decide +kernel
theorem dX9_text_33 : decode cX9_text 33 = .ok (.ifCond .lt 8, 3) := by decide +kernel
theorem dX9_text_36 : decode cX9_text 36 = .ok (.bipush (-10), 2) := by decide +kernel
theorem dX9_text_38 : decode cX9_text 38 = .ok (.iload_n 2, 1) := by decide +kernel
theorem dX9_text_39 : decode cX9_text 39 = .ok (.isub, 1) := by decide +kernel
theorem dX9_text_40 : decode cX9_text 40 = .ok (.ireturn, 1) := by decide +kernel
theorem dX9_text_41 : decode cX9_text 41 = .ok (.aload_n 0, 1) := by decide +kernel
theorem dX9_text_42 : decode cX9_text 42 = .ok (.getfield 10, 3) := by decide +kernel
theorem dX9_text_45 : decode cX9_text 45 = .ok (.getfield 176, 3) := by decide +kernel
theorem dX9_text_48 : decode cX9_text 48 = .ok (.iload_n 1, 1) := by decide +kernel
theorem dX9_text_49 : decode cX9_text 49 = .ok (.aaload, 1) := by decide +kernel
theorem dX9_text_50 : decode cX9_text 50 = .ok (.getfield 180, 3) := by decide +kernel
theorem dX9_text_53 : decode cX9_text 53 = .ok (.aload_n 0, 1) := by decide +kernel
theorem dX9_text_54 : decode cX9_text 54 = .ok (.getfield 35, 3) := by decide +kernel
theorem dX9_text_57 : decode cX9_text 57 = .ok (.getfield 185, 3) := by decide +kernel
theorem dX9_text_60 : decode cX9_text 60 = .ok (.invokevirtual 186, 3) := by decide +kernel
theorem dX9_text_63 : decode cX9_text 63 = .ok (.iconst 1, 1) := by decide +kernel
theorem dX9_text_64 : decode cX9_text 64 = .ok (.ireturn, 1) := by decide +kernel
theorem dX9_untell_0 : decode cX9_untell 0 = .ok (.iload_n 1, 1) := by decide +kernel
theorem dX9_untell_1 : decode cX9_untell 1 = .ok (.invokestatic 167, 3) := by decide +kernel
theorem dX9_untell_4 : decode cX9_untell 4 = .ok (.ifCond .ne 9, 3) := by decide +kernel
theorem dX9_untell_7 : decode cX9_untell 7 = .ok (.aload_n 0, 1) := by decide +kernel
theorem dX9_untell_8 : decode cX9_untell 8 = .ok (.iconst 1, 1) := by decide +kernel
theorem dX9_untell_9 : decode cX9_untell 9 = .ok (.invokevirtual 74, 3) := by decide +kernel
theorem dX9_untell_12 : decode cX9_untell 12 = .ok (.ireturn, 1) := by decide +kernel
theorem dX9_untell_13 : decode cX9_untell 13 = .ok (.aload_n 0, 1) := by decide +kernel
theorem dX9_untell_14 : decode cX9_untell 14 = .ok (.getfield 10, 3) := by decide +kernel
theorem dX9_untell_17 : decode cX9_untell 17 = .ok (.getfield 176, 3) := by decide +kernel
theorem dX9_untell_20 : decode cX9_untell 20 = .ok (.iload_n 1, 1) := by decide +kernel
theorem dX9_untell_21 : decode cX9_untell 21 = .ok (.aaload, 1) := by decide +kernel
theorem dX9_untell_22 : decode cX9_untell 22 = .ok (.invokevirtual 189, 3) := by decide +kernel
theorem dX9_untell_25 : decode cX9_untell 25 = .ok (.ifCond .eq 7, 3) := by decide +kernel
theorem dX9_untell_28 : decode cX9_untell 28 = .ok (.iconst 1, 1) := by decide +kernel
theorem dX9_untell_29 : decode cX9_untell 29 = .ok (.goto 4, 3) := by decide +kernel
theorem dX9_untell_32 : decode cX9_untell 32 = .ok (.iconst 0, 1) := by decide +kernel
theorem dX9_untell_33 : decode cX9_untell 33 = .ok (.istore_n 2, 1) := by decide +kernel
theorem dX9_untell_34 : decode cX9_untell 34 = .ok (.aload_n 0, 1) := by decide +kernel
theorem dX9_untell_35 : decode cX9_untell 35 = .ok (.getfield 10, 3) := by decide +kernel
theorem dX9_untell_38 : decode cX9_untell 38 = .ok (.getfield 176, 3) := by decide +kernel
theorem dX9_untell_41 : decode cX9_untell 41 = .ok (.iload_n 1, 1) := by decide +kernel
theorem dX9_untell_42 : decode cX9_untell 42 = .ok (.aaload, 1) := by decide +kernel
theorem dX9_untell_43 : decode cX9_untell 43 = .ok (.getfield 180, 3) := by decide +kernel
theorem dX9_untell_46 : decode cX9_untell 46 = .ok (.invokevirtual 173, 3) := by decide +kernel
theorem dX9_untell_49 : decode cX9_untell 49 = .ok (.iload_n 2, 1) := by decide +kernel
theorem dX9_untell_50 : decode cX9_untell 50 = .ok (.ireturn, 1) := by decide +kernel
theorem dX9_law_0 : decode cX9_law 0 = .ok (.iload_n 1, 1) := by decide +kernel
theorem dX9_law_1 : decode cX9_law 1 = .ok (.invokestatic 167, 3) := by decide +kernel
theorem dX9_law_4 : decode cX9_law 4 = .ok (.ifCond .ne 9, 3) := by decide +kernel
theorem dX9_law_7 : decode cX9_law 7 = .ok (.aload_n 0, 1) := by decide +kernel
theorem dX9_law_8 : decode cX9_law 8 = .ok (.iconst 1, 1) := by decide +kernel
theorem dX9_law_9 : decode cX9_law 9 = .ok (.invokevirtual 74, 3) := by decide +kernel
theorem dX9_law_12 : decode cX9_law 12 = .ok (.ireturn, 1) := by decide +kernel
theorem dX9_law_13 : decode cX9_law 13 = .ok (.aload_n 0, 1) := by decide +kernel
theorem dX9_law_14 : decode cX9_law 14 = .ok (.getfield 10, 3) := by decide +kernel
theorem dX9_law_17 : decode cX9_law 17 = .ok (.iload_n 1, 1) := by decide +kernel
theorem dX9_law_18 : decode cX9_law 18 = .ok (.iload_n 2, 1) := by decide +kernel
theorem dX9_law_19 : decode cX9_law 19 = .ok (.iload_n 3, 1) := by decide +kernel
theorem dX9_law_20 : decode cX9_law 20 = .ok (.iload 4, 2) := by decide +kernel
theorem dX9_law_22 : decode cX9_law 22 = .ok (.invokevirtual 193, 3) := by decide +kernel
theorem dX9_law_25 : decode cX9_law 25 = .ok (.ireturn, 1) := by decide +kernel
theorem dX9_years_0 : decode cX9_years 0 = .ok (.iload_n 1, 1) := by decide +kernel
theorem dX9_years_1 : decode cX9_years 1 = .ok (.iconst 1, 1) := by decide +kernel
theorem dX9_years_2 : decode cX9_years 2 = .ok (.if_icmp .lt 9, 3) := by decide +kernel
theorem dX9_years_5 : decode cX9_years 5 = .ok (.iload_n 1, 1) := by decide +kernel
theorem dX9_years_6 : decode cX9_years 6 = .ok (.bipush 60, 2) := by decide +kernel
theorem dX9_years_8 : decode cX9_years 8 = .ok (.if_icmp .le 9, 3) := by decide +kernel
theorem dX9_years_11 : decode cX9_years 11 = .ok (.aload_n 0, 1) := by decide +kernel
theorem dX9_years_12 : decode cX9_years 12 = .ok (.iconst 1, 1) := by decide +kernel
theorem dX9_years_13 : decode cX9_years 13 = .ok (.invokevirtual 74, 3) := by decide +kernel
theorem dX9_years_16 : decode cX9_years 16 = .ok (.ireturn, 1) := by decide +kernel
theorem dX9_years_17 : decode cX9_years 17 = .ok (.aload_n 0, 1) := by decide +kernel
theorem dX9_years_18 : decode cX9_years 18 = .ok (.getfield 10, 3) := by decide +kernel
theorem dX9_years_21 : decode cX9_years 21 = .ok (.getfield 97, 3) := by decide +kernel
theorem dX9_years_24 : decode cX9_years 24 = .ok (.getfield 197, 3) := by decide +kernel
theorem dX9_years_27 : decode cX9_years 27 = .ok (.iload_n 1, 1) := by decide +kernel
theorem dX9_years_28 : decode cX9_years 28 = .ok (.iadd, 1) := by decide +kernel
theorem dX9_years_29 : decode cX9_years 29 = .ok (.sipush 9999, 3) := by decide +kernel
theorem dX9_years_32 : decode cX9_years 32 = .ok (.if_icmp .le 9, 3) := by decide +kernel
theorem dX9_years_35 : decode cX9_years 35 = .ok (.aload_n 0, 1) := by decide +kernel
theorem dX9_years_36 : decode cX9_years 36 = .ok (.iconst 3, 1) := by decide +kernel
theorem dX9_years_37 : decode cX9_years 37 = .ok (.invokevirtual 74, 3) := by decide +kernel
theorem dX9_years_40 : decode cX9_years 40 = .ok (.ireturn, 1) := by decide +kernel
theorem dX9_years_41 : decode cX9_years 41 = .ok (.aload_n 0, 1) := by decide +kernel
theorem dX9_years_42 : decode cX9_years 42 = .ok (.getfield 10, 3) := by decide +kernel
theorem dX9_years_45 : decode cX9_years 45 = .ok (.aload_n 0, 1) := by decide +kernel
theorem dX9_years_46 : decode cX9_years 46 = .ok (.getfield 10, 3) := by decide +kernel
theorem dX9_years_49 : decode cX9_years 49 = .ok (.getfield 97, 3) := by decide +kernel
theorem dX9_years_52 : decode cX9_years 52 = .ok (.iload_n 1, 1) := by decide +kernel
theorem dX9_years_53 : decode cX9_years 53 = .ok (.invokevirtual 200, 3) := by decide +kernel
theorem dX9_years_56 : decode cX9_years 56 = .ok (.aload_n 0, 1) := by decide +kernel
theorem dX9_years_57 : decode cX9_years 57 = .ok (.getfield 10, 3) := by decide +kernel
theorem dX9_years_60 : decode cX9_years 60 = .ok (.getfield 97, 3) := by decide +kernel
theorem dX9_years_63 : decode cX9_years 63 = .ok (.invokevirtual 204, 3) := by decide +kernel
theorem dX9_years_66 : decode cX9_years 66 = .ok (.ireturn, 1) := by decide +kernel
theorem dX9_loose_0 : decode cX9_loose 0 = .ok (.iload_n 1, 1) := by decide +kernel
theorem dX9_loose_1 : decode cX9_loose 1 = .ok (.iconst 1, 1) := by decide +kernel
theorem dX9_loose_2 : decode cX9_loose 2 = .ok (.if_icmp .lt 9, 3) := by decide +kernel
theorem dX9_loose_5 : decode cX9_loose 5 = .ok (.iload_n 1, 1) := by decide +kernel
theorem dX9_loose_6 : decode cX9_loose 6 = .ok (.bipush 30, 2) := by decide +kernel
theorem dX9_loose_8 : decode cX9_loose 8 = .ok (.if_icmp .le 9, 3) := by decide +kernel
theorem dX9_loose_11 : decode cX9_loose 11 = .ok (.aload_n 0, 1) := by decide +kernel
theorem dX9_loose_12 : decode cX9_loose 12 = .ok (.iconst 1, 1) := by decide +kernel
theorem dX9_loose_13 : decode cX9_loose 13 = .ok (.invokevirtual 74, 3) := by decide +kernel
theorem dX9_loose_16 : decode cX9_loose 16 = .ok (.ireturn, 1) := by decide +kernel
theorem dX9_loose_17 : decode cX9_loose 17 = .ok (.aload_n 0, 1) := by decide +kernel
theorem dX9_loose_18 : decode cX9_loose 18 = .ok (.getfield 10, 3) := by decide +kernel
theorem dX9_loose_21 : decode cX9_loose 21 = .ok (.getfield 97, 3) := by decide +kernel
theorem dX9_loose_24 : decode cX9_loose 24 = .ok (.getfield 197, 3) := by decide +kernel
theorem dX9_loose_27 : decode cX9_loose 27 = .ok (.iload_n 1, 1) := by decide +kernel
theorem dX9_loose_28 : decode cX9_loose 28 = .ok (.iadd, 1) := by decide +kernel
theorem dX9_loose_29 : decode cX9_loose 29 = .ok (.sipush 9999, 3) := by decide +kernel
theorem dX9_loose_32 : decode cX9_loose 32 = .ok (.if_icmp .le 9, 3) := by decide +kernel
theorem dX9_loose_35 : decode cX9_loose 35 = .ok (.aload_n 0, 1) := by decide +kernel
theorem dX9_loose_36 : decode cX9_loose 36 = .ok (.iconst 3, 1) := by decide +kernel
theorem dX9_loose_37 : decode cX9_loose 37 = .ok (.invokevirtual 74, 3) := by decide +kernel
theorem dX9_loose_40 : decode cX9_loose 40 = .ok (.ireturn, 1) := by decide +kernel
theorem dX9_loose_41 : decode cX9_loose 41 = .ok (.iconst 0, 1) := by decide +kernel
theorem dX9_loose_42 : decode cX9_loose 42 = .ok (.istore_n 2, 1) := by decide +kernel
theorem dX9_loose_43 : decode cX9_loose 43 = .ok (.iload_n 2, 1) := by decide +kernel
theorem dX9_loose_44 : decode cX9_loose 44 = .ok (.iload_n 1, 1) := by decide +kernel
theorem dX9_loose_45 : decode cX9_loose 45 = .ok (.if_icmp .ge 31, 3) := by decide +kernel
theorem dX9_loose_48 : decode cX9_loose 48 = .ok (.aload_n 0, 1) := by decide +kernel
theorem dX9_loose_49 : decode cX9_loose 49 = .ok (.getfield 10, 3) := by decide +kernel
theorem dX9_loose_52 : decode cX9_loose 52 = .ok (.invokevirtual 207, 3) := by decide +kernel
theorem dX9_loose_55 : decode cX9_loose 55 = .ok (.aload_n 0, 1) := by decide +kernel
theorem dX9_loose_56 : decode cX9_loose 56 = .ok (.getfield 10, 3) := by decide +kernel
theorem dX9_loose_59 : decode cX9_loose 59 = .ok (.aload_n 0, 1) := by decide +kernel
theorem dX9_loose_60 : decode cX9_loose 60 = .ok (.getfield 10, 3) := by decide +kernel
theorem dX9_loose_63 : decode cX9_loose 63 = .ok (.getfield 97, 3) := by decide +kernel
theorem dX9_loose_66 : decode cX9_loose 66 = .ok (.iconst 1, 1) := by decide +kernel
theorem dX9_loose_67 : decode cX9_loose 67 = .ok (.invokevirtual 200, 3) := by decide +kernel
theorem dX9_loose_70 : decode cX9_loose 70 = .ok (.iinc 2 1, 3) := by decide +kernel
theorem dX9_loose_73 : decode cX9_loose 73 = .ok (.goto (-30), 3) := by decide +kernel
theorem dX9_loose_76 : decode cX9_loose 76 = .ok (.aload_n 0, 1) := by decide +kernel
theorem dX9_loose_77 : decode cX9_loose 77 = .ok (.getfield 10, 3) := by decide +kernel
theorem dX9_loose_80 : decode cX9_loose 80 = .ok (.getfield 97, 3) := by decide +kernel
theorem dX9_loose_83 : decode cX9_loose 83 = .ok (.invokevirtual 204, 3) := by decide +kernel
theorem dX9_loose_86 : decode cX9_loose 86 = .ok (.ireturn, 1) := by decide +kernel
theorem dX9_year_0 : decode cX9_year 0 = .ok (.iload_n 1, 1) := by decide +kernel
theorem dX9_year_1 : decode cX9_year 1 = .ok (.ifCond .lt 10, 3) := by decide +kernel
theorem dX9_year_4 : decode cX9_year 4 = .ok (.iload_n 1, 1) := by decide +kernel
theorem dX9_year_5 : decode cX9_year 5 = .ok (.sipush 9999, 3) := by decide +kernel
theorem dX9_year_8 : decode cX9_year 8 = .ok (.if_icmp .le 9, 3) := by decide +kernel
theorem dX9_year_11 : decode cX9_year 11 = .ok (.aload_n 0, 1) := by decide +kernel
theorem dX9_year_12 : decode cX9_year 12 = .ok (.iconst 1, 1) := by decide +kernel
theorem dX9_year_13 : decode cX9_year 13 = .ok (.invokevirtual 74, 3) := by decide +kernel
theorem dX9_year_16 : decode cX9_year 16 = .ok (.ireturn, 1) := by decide +kernel
theorem dX9_year_17 : decode cX9_year 17 = .ok (.aload_n 0, 1) := by decide +kernel
theorem dX9_year_18 : decode cX9_year 18 = .ok (.getfield 10, 3) := by decide +kernel
theorem dX9_year_21 : decode cX9_year 21 = .ok (.getfield 97, 3) := by decide +kernel
theorem dX9_year_24 : decode cX9_year 24 = .ok (.getfield 197, 3) := by decide +kernel
theorem dX9_year_27 : decode cX9_year 27 = .ok (.istore_n 2, 1) := by decide +kernel
theorem dX9_year_28 : decode cX9_year 28 = .ok (.aload_n 0, 1) := by decide +kernel
theorem dX9_year_29 : decode cX9_year 29 = .ok (.getfield 10, 3) := by decide +kernel
theorem dX9_year_32 : decode cX9_year 32 = .ok (.getfield 97, 3) := by decide +kernel
theorem dX9_year_35 : decode cX9_year 35 = .ok (.iload_n 1, 1) := by decide +kernel
theorem dX9_year_36 : decode cX9_year 36 = .ok (.putfield 197, 3) := by decide +kernel
theorem dX9_year_39 : decode cX9_year 39 = .ok (.iload_n 2, 1) := by decide +kernel
theorem dX9_year_40 : decode cX9_year 40 = .ok (.ireturn, 1) := by decide +kernel
theorem dX9_seed_0 : decode cX9_seed 0 = .ok (.aload_n 0, 1) := by decide +kernel
theorem dX9_seed_1 : decode cX9_seed 1 = .ok (.getfield 10, 3) := by decide +kernel
theorem dX9_seed_4 : decode cX9_seed 4 = .ok (.getfield 210, 3) := by decide +kernel
theorem dX9_seed_7 : decode cX9_seed 7 = .ok (.istore_n 2, 1) := by decide +kernel
theorem dX9_seed_8 : decode cX9_seed 8 = .ok (.aload_n 0, 1) := by decide +kernel
theorem dX9_seed_9 : decode cX9_seed 9 = .ok (.getfield 10, 3) := by decide +kernel
theorem dX9_seed_12 : decode cX9_seed 12 = .ok (.iload_n 1, 1) := by decide +kernel
theorem dX9_seed_13 : decode cX9_seed 13 = .ok (.putfield 210, 3) := by decide +kernel
theorem dX9_seed_16 : decode cX9_seed 16 = .ok (.iload_n 2, 1) := by decide +kernel
theorem dX9_seed_17 : decode cX9_seed 17 = .ok (.ireturn, 1) := by decide +kernel
theorem dX9_then_0 : decode cX9_then 0 = .ok (.aload_n 0, 1) := by decide +kernel
theorem dX9_then_1 : decode cX9_then 1 = .ok (.getfield 10, 3) := by decide +kernel
theorem dX9_then_4 : decode cX9_then 4 = .ok (.getfield 65, 3) := by decide +kernel
theorem dX9_then_7 : decode cX9_then 7 = .ok (.iload_n 1, 1) := by decide +kernel
theorem dX9_then_8 : decode cX9_then 8 = .ok (.invokevirtual 82, 3) := by decide +kernel
theorem dX9_then_11 : decode cX9_then 11 = .ok (.ifCond .eq 13, 3) := by decide +kernel
theorem dX9_then_14 : decode cX9_then 14 = .ok (.iload_n 2, 1) := by decide +kernel
theorem dX9_then_15 : decode cX9_then 15 = .ok (.ifCond .lt 9, 3) := by decide +kernel
theorem dX9_then_18 : decode cX9_then 18 = .ok (.iload_n 2, 1) := by decide +kernel
theorem dX9_then_19 : decode cX9_then 19 = .ok (.bipush 60, 2) := by decide +kernel
theorem dX9_then_21 : decode cX9_then 21 = .ok (.if_icmp .le 9, 3) := by decide +kernel
theorem dX9_then_24 : decode cX9_then 24 = .ok (.aload_n 0, 1) := by decide +kernel
theorem dX9_then_25 : decode cX9_then 25 = .ok (.iconst 1, 1) := by decide +kernel
theorem dX9_then_26 : decode cX9_then 26 = .ok (.invokevirtual 74, 3) := by decide +kernel
theorem dX9_then_29 : decode cX9_then 29 = .ok (.ireturn, 1) := by decide +kernel
theorem dX9_then_30 : decode cX9_then 30 = .ok (.aload_n 0, 1) := by decide +kernel
theorem dX9_then_31 : decode cX9_then 31 = .ok (.getfield 22, 3) := by decide +kernel
theorem dX9_then_34 : decode cX9_then 34 = .ok (.aload_n 0, 1) := by decide +kernel
theorem dX9_then_35 : decode cX9_then 35 = .ok (.getfield 10, 3) := by decide +kernel
theorem dX9_then_38 : decode cX9_then 38 = .ok (.getfield 97, 3) := by decide +kernel
theorem dX9_then_41 : decode cX9_then 41 = .ok (.invokevirtual 213, 3) := by decide +kernel
theorem dX9_then_44 : decode cX9_then 44 = .ok (.aload_n 0, 1) := by decide +kernel
theorem dX9_then_45 : decode cX9_then 45 = .ok (.getfield 10, 3) := by decide +kernel
theorem dX9_then_48 : decode cX9_then 48 = .ok (.aload_n 0, 1) := by decide +kernel
theorem dX9_then_49 : decode cX9_then 49 = .ok (.getfield 22, 3) := by decide +kernel
theorem dX9_then_52 : decode cX9_then 52 = .ok (.iload_n 2, 1) := by decide +kernel
theorem dX9_then_53 : decode cX9_then 53 = .ok (.invokevirtual 200, 3) := by decide +kernel
theorem dX9_then_56 : decode cX9_then 56 = .ok (.aload_n 0, 1) := by decide +kernel
theorem dX9_then_57 : decode cX9_then 57 = .ok (.getfield 22, 3) := by decide +kernel
theorem dX9_then_60 : decode cX9_then 60 = .ok (.getfield 100, 3) := by decide +kernel
theorem dX9_then_63 : decode cX9_then 63 = .ok (.iload_n 1, 1) := by decide +kernel
theorem dX9_then_64 : decode cX9_then 64 = .ok (.iaload, 1) := by decide +kernel
theorem dX9_then_65 : decode cX9_then 65 = .ok (.ireturn, 1) := by decide +kernel
theorem dX9_soonest_0 : decode cX9_soonest 0 = .ok (.aload_n 0, 1) := by decide +kernel
theorem dX9_soonest_1 : decode cX9_soonest 1 = .ok (.getfield 10, 3) := by decide +kernel
theorem dX9_soonest_4 : decode cX9_soonest 4 = .ok (.getfield 65, 3) := by decide +kernel
theorem dX9_soonest_7 : decode cX9_soonest 7 = .ok (.iload_n 1, 1) := by decide +kernel
theorem dX9_soonest_8 : decode cX9_soonest 8 = .ok (.invokevirtual 82, 3) := by decide +kernel
theorem dX9_soonest_11 : decode cX9_soonest 11 = .ok (.ifCond .eq 17, 3) := by decide +kernel
theorem dX9_soonest_14 : decode cX9_soonest 14 = .ok (.aload_n 0, 1) := by decide +kernel
theorem dX9_soonest_15 : decode cX9_soonest 15 = .ok (.getfield 10, 3) := by decide +kernel
theorem dX9_soonest_18 : decode cX9_soonest 18 = .ok (.getfield 65, 3) := by decide +kernel
theorem dX9_soonest_21 : decode cX9_soonest 21 = .ok (.iload_n 2, 1) := by decide +kernel
theorem dX9_soonest_22 : decode cX9_soonest 22 = .ok (.invokevirtual 82, 3) := by decide +kernel
theorem dX9_soonest_25 : decode cX9_soonest 25 = .ok (.ifCond .ne 9, 3) := by decide +kernel
theorem dX9_soonest_28 : decode cX9_soonest 28 = .ok (.aload_n 0, 1) := by decide +kernel
theorem dX9_soonest_29 : decode cX9_soonest 29 = .ok (.iconst 1, 1) := by decide +kernel
theorem dX9_soonest_30 : decode cX9_soonest 30 = .ok (.invokevirtual 74, 3) := by decide +kernel
theorem dX9_soonest_33 : decode cX9_soonest 33 = .ok (.ireturn, 1) := by decide +kernel
theorem dX9_soonest_34 : decode cX9_soonest 34 = .ok (.aload_n 0, 1) := by decide +kernel
theorem dX9_soonest_35 : decode cX9_soonest 35 = .ok (.getfield 22, 3) := by decide +kernel
theorem dX9_soonest_38 : decode cX9_soonest 38 = .ok (.aload_n 0, 1) := by decide +kernel
theorem dX9_soonest_39 : decode cX9_soonest 39 = .ok (.getfield 10, 3) := by decide +kernel
theorem dX9_soonest_42 : decode cX9_soonest 42 = .ok (.getfield 97, 3) := by decide +kernel
theorem dX9_soonest_45 : decode cX9_soonest 45 = .ok (.invokevirtual 213, 3) := by decide +kernel
theorem dX9_soonest_48 : decode cX9_soonest 48 = .ok (.iconst 0, 1) := by decide +kernel
theorem dX9_soonest_49 : decode cX9_soonest 49 = .ok (.istore_n 3, 1) := by decide +kernel
theorem dX9_soonest_50 : decode cX9_soonest 50 = .ok (.iload_n 3, 1) := by decide +kernel
theorem dX9_soonest_51 : decode cX9_soonest 51 = .ok (.bipush 60, 2) := by decide +kernel
theorem dX9_soonest_53 : decode cX9_soonest 53 = .ok (.if_icmp .gt 39, 3) := by decide +kernel
theorem dX9_soonest_56 : decode cX9_soonest 56 = .ok (.aload_n 0, 1) := by decide +kernel
theorem dX9_soonest_57 : decode cX9_soonest 57 = .ok (.getfield 22, 3) := by decide +kernel
theorem dX9_soonest_60 : decode cX9_soonest 60 = .ok (.getfield 100, 3) := by decide +kernel
theorem dX9_soonest_63 : decode cX9_soonest 63 = .ok (.iload_n 1, 1) := by decide +kernel
theorem dX9_soonest_64 : decode cX9_soonest 64 = .ok (.iaload, 1) := by decide +kernel
theorem dX9_soonest_65 : decode cX9_soonest 65 = .ok (.iload_n 2, 1) := by decide +kernel
theorem dX9_soonest_66 : decode cX9_soonest 66 = .ok (.invokestatic 216, 3) := by decide +kernel
theorem dX9_soonest_69 : decode cX9_soonest 69 = .ok (.ifCond .eq 5, 3) := by decide +kernel
theorem dX9_soonest_72 : decode cX9_soonest 72 = .ok (.iload_n 3, 1) := by decide +kernel
theorem dX9_soonest_73 : decode cX9_soonest 73 = .ok (.ireturn, 1) := by decide +kernel
theorem dX9_soonest_74 : decode cX9_soonest 74 = .ok (.aload_n 0, 1) := by decide +kernel
theorem dX9_soonest_75 : decode cX9_soonest 75 = .ok (.getfield 10, 3) := by decide +kernel
theorem dX9_soonest_78 : decode cX9_soonest 78 = .ok (.aload_n 0, 1) := by decide +kernel
theorem dX9_soonest_79 : decode cX9_soonest 79 = .ok (.getfield 22, 3) := by decide +kernel
theorem dX9_soonest_82 : decode cX9_soonest 82 = .ok (.iconst 1, 1) := by decide +kernel
theorem dX9_soonest_83 : decode cX9_soonest 83 = .ok (.invokevirtual 200, 3) := by decide +kernel
theorem dX9_soonest_86 : decode cX9_soonest 86 = .ok (.iinc 3 1, 3) := by decide +kernel
theorem dX9_soonest_89 : decode cX9_soonest 89 = .ok (.goto (-39), 3) := by decide +kernel
theorem dX9_soonest_92 : decode cX9_soonest 92 = .ok (.aload_n 0, 1) := by decide +kernel
theorem dX9_soonest_93 : decode cX9_soonest 93 = .ok (.iconst 2, 1) := by decide +kernel
theorem dX9_soonest_94 : decode cX9_soonest 94 = .ok (.invokevirtual 74, 3) := by decide +kernel
theorem dX9_soonest_97 : decode cX9_soonest 97 = .ok (.ireturn, 1) := by decide +kernel
theorem dX9_match_0 : decode cX9_match 0 = .ok (.aload_n 0, 1) := by decide +kernel
theorem dX9_match_1 : decode cX9_match 1 = .ok (.getfield 10, 3) := by decide +kernel
theorem dX9_match_4 : decode cX9_match 4 = .ok (.getfield 65, 3) := by decide +kernel
theorem dX9_match_7 : decode cX9_match 7 = .ok (.iload_n 1, 1) := by decide +kernel
theorem dX9_match_8 : decode cX9_match 8 = .ok (.invokevirtual 82, 3) := by decide +kernel
theorem dX9_match_11 : decode cX9_match 11 = .ok (.ifCond .eq 26, 3) := by decide +kernel
theorem dX9_match_14 : decode cX9_match 14 = .ok (.aload_n 0, 1) := by decide +kernel
theorem dX9_match_15 : decode cX9_match 15 = .ok (.getfield 10, 3) := by decide +kernel
theorem dX9_match_18 : decode cX9_match 18 = .ok (.getfield 65, 3) := by decide +kernel
theorem dX9_match_21 : decode cX9_match 21 = .ok (.iload_n 2, 1) := by decide +kernel
theorem dX9_match_22 : decode cX9_match 22 = .ok (.invokevirtual 82, 3) := by decide +kernel
theorem dX9_match_25 : decode cX9_match 25 = .ok (.ifCond .eq 12, 3) := by decide +kernel
theorem dX9_match_28 : decode cX9_match 28 = .ok (.iload_n 3, 1) := by decide +kernel
theorem dX9_match_29 : decode cX9_match 29 = .ok (.ifCond .lt 8, 3) := by decide +kernel
theorem dX9_match_32 : decode cX9_match 32 = .ok (.iload_n 3, 1) := by decide +kernel
theorem dX9_match_33 : decode cX9_match 33 = .ok (.iconst 1, 1) := by decide +kernel
theorem dX9_match_34 : decode cX9_match 34 = .ok (.if_icmp .le 9, 3) := by decide +kernel
theorem dX9_match_37 : decode cX9_match 37 = .ok (.aload_n 0, 1) := by decide +kernel
theorem dX9_match_38 : decode cX9_match 38 = .ok (.iconst 1, 1) := by decide +kernel
theorem dX9_match_39 : decode cX9_match 39 = .ok (.invokevirtual 74, 3) := by decide +kernel
theorem dX9_match_42 : decode cX9_match 42 = .ok (.ireturn, 1) := by decide +kernel
theorem dX9_match_43 : decode cX9_match 43 = .ok (.aload_n 0, 1) := by decide +kernel
theorem dX9_match_44 : decode cX9_match 44 = .ok (.getfield 10, 3) := by decide +kernel
theorem dX9_match_47 : decode cX9_match 47 = .ok (.getfield 65, 3) := by decide +kernel
theorem dX9_match_50 : decode cX9_match 50 = .ok (.iload_n 1, 1) := by decide +kernel
theorem dX9_match_51 : decode cX9_match 51 = .ok (.iload_n 2, 1) := by decide +kernel
theorem dX9_match_52 : decode cX9_match 52 = .ok (.invokevirtual 219, 3) := by decide +kernel
theorem dX9_match_55 : decode cX9_match 55 = .ok (.istore 4, 2) := by decide +kernel
theorem dX9_match_57 : decode cX9_match 57 = .ok (.iload 4, 2) := by decide +kernel
theorem dX9_match_59 : decode cX9_match 59 = .ok (.ifCond .ge 9, 3) := by decide +kernel
theorem dX9_match_62 : decode cX9_match 62 = .ok (.aload_n 0, 1) := by decide +kernel
theorem dX9_match_63 : decode cX9_match 63 = .ok (.iconst 2, 1) := by decide +kernel
theorem dX9_match_64 : decode cX9_match 64 = .ok (.invokevirtual 74, 3) := by decide +kernel
theorem dX9_match_67 : decode cX9_match 67 = .ok (.ireturn, 1) := by decide +kernel
theorem dX9_match_68 : decode cX9_match 68 = .ok (.iload_n 3, 1) := by decide +kernel
theorem dX9_match_69 : decode cX9_match 69 = .ok (.ifCond .ne 11, 3) := by decide +kernel
theorem dX9_match_72 : decode cX9_match 72 = .ok (.iload 4, 2) := by decide +kernel
theorem dX9_match_74 : decode cX9_match 74 = .ok (.bipush 100, 2) := by decide +kernel
theorem dX9_match_76 : decode cX9_match 76 = .ok (.irem, 1) := by decide +kernel
theorem dX9_match_77 : decode cX9_match 77 = .ok (.goto 8, 3) := by decide +kernel
theorem dX9_match_80 : decode cX9_match 80 = .ok (.iload 4, 2) := by decide +kernel
theorem dX9_match_82 : decode cX9_match 82 = .ok (.bipush 100, 2) := by decide +kernel
theorem dX9_match_84 : decode cX9_match 84 = .ok (.idiv, 1) := by decide +kernel
theorem dX9_match_85 : decode cX9_match 85 = .ok (.ireturn, 1) := by decide +kernel
theorem dX9_orderFor_0 : decode cX9_orderFor 0 = .ok (.aload_n 0, 1) := by decide +kernel
theorem dX9_orderFor_1 : decode cX9_orderFor 1 = .ok (.getfield 10, 3) := by decide +kernel
theorem dX9_orderFor_4 : decode cX9_orderFor 4 = .ok (.getfield 65, 3) := by decide +kernel
theorem dX9_orderFor_7 : decode cX9_orderFor 7 = .ok (.iload_n 1, 1) := by decide +kernel
theorem dX9_orderFor_8 : decode cX9_orderFor 8 = .ok (.invokevirtual 82, 3) := by decide +kernel
theorem dX9_orderFor_11 : decode cX9_orderFor 11 = .ok (.ifCond .eq 13, 3) := by decide +kernel
theorem dX9_orderFor_14 : decode cX9_orderFor 14 = .ok (.iload_n 2, 1) := by decide +kernel
theorem dX9_orderFor_15 : decode cX9_orderFor 15 = .ok (.ifCond .lt 9, 3) := by decide +kernel
theorem dX9_orderFor_18 : decode cX9_orderFor 18 = .ok (.iload_n 2, 1) := by decide +kernel
theorem dX9_orderFor_19 : decode cX9_orderFor 19 = .ok (.bipush 40, 2) := by decide +kernel
theorem dX9_orderFor_21 : decode cX9_orderFor 21 = .ok (.if_icmp .le 9, 3) := by decide +kernel
theorem dX9_orderFor_24 : decode cX9_orderFor 24 = .ok (.aload_n 0, 1) := by decide +kernel
theorem dX9_orderFor_25 : decode cX9_orderFor 25 = .ok (.iconst 1, 1) := by decide +kernel
theorem dX9_orderFor_26 : decode cX9_orderFor 26 = .ok (.invokevirtual 74, 3) := by decide +kernel
theorem dX9_orderFor_29 : decode cX9_orderFor 29 = .ok (.ireturn, 1) := by decide +kernel
theorem dX9_orderFor_30 : decode cX9_orderFor 30 = .ok (.aload_n 0, 1) := by decide +kernel
theorem dX9_orderFor_31 : decode cX9_orderFor 31 = .ok (.getfield 10, 3) := by decide +kernel
theorem dX9_orderFor_34 : decode cX9_orderFor 34 = .ok (.getfield 97, 3) := by decide +kernel
theorem dX9_orderFor_37 : decode cX9_orderFor 37 = .ok (.iload_n 1, 1) := by decide +kernel
theorem dX9_orderFor_38 : decode cX9_orderFor 38 = .ok (.invokevirtual 222, 3) := by decide +kernel
theorem dX9_orderFor_41 : decode cX9_orderFor 41 = .ok (.istore_n 3, 1) := by decide +kernel
theorem dX9_orderFor_42 : decode cX9_orderFor 42 = .ok (.iconst 0, 1) := by decide +kernel
theorem dX9_orderFor_43 : decode cX9_orderFor 43 = .ok (.istore 4, 2) := by decide +kernel
theorem dX9_orderFor_45 : decode cX9_orderFor 45 = .ok (.iload 4, 2) := by decide +kernel
theorem dX9_orderFor_47 : decode cX9_orderFor 47 = .ok (.bipush 40, 2) := by decide +kernel
theorem dX9_orderFor_49 : decode cX9_orderFor 49 = .ok (.if_icmp .gt 59, 3) := by decide +kernel
theorem dX9_orderFor_52 : decode cX9_orderFor 52 = .ok (.aload_n 0, 1) := by decide +kernel
theorem dX9_orderFor_53 : decode cX9_orderFor 53 = .ok (.getfield 22, 3) := by decide +kernel
theorem dX9_orderFor_56 : decode cX9_orderFor 56 = .ok (.aload_n 0, 1) := by decide +kernel
theorem dX9_orderFor_57 : decode cX9_orderFor 57 = .ok (.getfield 10, 3) := by decide +kernel
theorem dX9_orderFor_60 : decode cX9_orderFor 60 = .ok (.getfield 97, 3) := by decide +kernel
theorem dX9_orderFor_63 : decode cX9_orderFor 63 = .ok (.invokevirtual 213, 3) := by decide +kernel
theorem dX9_orderFor_66 : decode cX9_orderFor 66 = .ok (.aload_n 0, 1) := by decide +kernel
theorem dX9_orderFor_67 : decode cX9_orderFor 67 = .ok (.getfield 22, 3) := by decide +kernel
theorem dX9_orderFor_70 : decode cX9_orderFor 70 = .ok (.iload 4, 2) := by decide +kernel
theorem dX9_orderFor_72 : decode cX9_orderFor 72 = .ok (.putfield 152, 3) := by decide +kernel
theorem dX9_orderFor_75 : decode cX9_orderFor 75 = .ok (.aload_n 0, 1) := by decide +kernel
theorem dX9_orderFor_76 : decode cX9_orderFor 76 = .ok (.getfield 10, 3) := by decide +kernel
theorem dX9_orderFor_79 : decode cX9_orderFor 79 = .ok (.aload_n 0, 1) := by decide +kernel
theorem dX9_orderFor_80 : decode cX9_orderFor 80 = .ok (.getfield 22, 3) := by decide +kernel
theorem dX9_orderFor_83 : decode cX9_orderFor 83 = .ok (.iload_n 2, 1) := by decide +kernel
theorem dX9_orderFor_84 : decode cX9_orderFor 84 = .ok (.invokevirtual 200, 3) := by decide +kernel
theorem dX9_orderFor_87 : decode cX9_orderFor 87 = .ok (.aload_n 0, 1) := by decide +kernel
theorem dX9_orderFor_88 : decode cX9_orderFor 88 = .ok (.getfield 22, 3) := by decide +kernel
theorem dX9_orderFor_91 : decode cX9_orderFor 91 = .ok (.iload_n 1, 1) := by decide +kernel
theorem dX9_orderFor_92 : decode cX9_orderFor 92 = .ok (.invokevirtual 222, 3) := by decide +kernel
theorem dX9_orderFor_95 : decode cX9_orderFor 95 = .ok (.iload_n 3, 1) := by decide +kernel
theorem dX9_orderFor_96 : decode cX9_orderFor 96 = .ok (.if_icmp .ne 6, 3) := by decide +kernel
theorem dX9_orderFor_99 : decode cX9_orderFor 99 = .ok (.iload 4, 2) := by decide +kernel
theorem dX9_orderFor_101 : decode cX9_orderFor 101 = .ok (.ireturn, 1) := by decide +kernel
theorem dX9_orderFor_102 : decode cX9_orderFor 102 = .ok (.iinc 4 1, 3) := by decide +kernel
theorem dX9_orderFor_105 : decode cX9_orderFor 105 = .ok (.goto (-60), 3) := by decide +kernel
theorem dX9_orderFor_108 : decode cX9_orderFor 108 = .ok (.aload_n 0, 1) := by decide +kernel
theorem dX9_orderFor_109 : decode cX9_orderFor 109 = .ok (.iconst 2, 1) := by decide +kernel
theorem dX9_orderFor_110 : decode cX9_orderFor 110 = .ok (.invokevirtual 74, 3) := by decide +kernel
theorem dX9_orderFor_113 : decode cX9_orderFor 113 = .ok (.ireturn, 1) := by decide +kernel
theorem dX9_seers_0 : decode cX9_seers 0 = .ok (.aload_n 0, 1) := by decide +kernel
theorem dX9_seers_1 : decode cX9_seers 1 = .ok (.getfield 10, 3) := by decide +kernel
theorem dX9_seers_4 : decode cX9_seers 4 = .ok (.getfield 65, 3) := by decide +kernel
theorem dX9_seers_7 : decode cX9_seers 7 = .ok (.iload_n 1, 1) := by decide +kernel
theorem dX9_seers_8 : decode cX9_seers 8 = .ok (.invokevirtual 82, 3) := by decide +kernel
theorem dX9_seers_11 : decode cX9_seers 11 = .ok (.ifCond .ne 9, 3) := by decide +kernel
theorem dX9_seers_14 : decode cX9_seers 14 = .ok (.aload_n 0, 1) := by decide +kernel
theorem dX9_seers_15 : decode cX9_seers 15 = .ok (.iconst 1, 1) := by decide +kernel
theorem dX9_seers_16 : decode cX9_seers 16 = .ok (.invokevirtual 74, 3) := by decide +kernel
theorem dX9_seers_19 : decode cX9_seers 19 = .ok (.ireturn, 1) := by decide +kernel
theorem dX9_seers_20 : decode cX9_seers 20 = .ok (.aload_n 0, 1) := by decide +kernel
theorem dX9_seers_21 : decode cX9_seers 21 = .ok (.getfield 10, 3) := by decide +kernel
theorem dX9_seers_24 : decode cX9_seers 24 = .ok (.getfield 97, 3) := by decide +kernel
theorem dX9_seers_27 : decode cX9_seers 27 = .ok (.iload_n 1, 1) := by decide +kernel
theorem dX9_seers_28 : decode cX9_seers 28 = .ok (.invokevirtual 222, 3) := by decide +kernel
theorem dX9_seers_31 : decode cX9_seers 31 = .ok (.ireturn, 1) := by decide +kernel
theorem dX9_witnesses_0 : decode cX9_witnesses 0 = .ok (.aload_n 0, 1) := by decide +kernel
theorem dX9_witnesses_1 : decode cX9_witnesses 1 = .ok (.getfield 10, 3) := by decide +kernel
theorem dX9_witnesses_4 : decode cX9_witnesses 4 = .ok (.getfield 65, 3) := by decide +kernel
theorem dX9_witnesses_7 : decode cX9_witnesses 7 = .ok (.iload_n 1, 1) := by decide +kernel
theorem dX9_witnesses_8 : decode cX9_witnesses 8 = .ok (.invokevirtual 225, 3) := by decide +kernel
theorem dX9_witnesses_11 : decode cX9_witnesses 11 = .ok (.ifCond .ne 9, 3) := by decide +kernel
theorem dX9_witnesses_14 : decode cX9_witnesses 14 = .ok (.aload_n 0, 1) := by decide +kernel
theorem dX9_witnesses_15 : decode cX9_witnesses 15 = .ok (.iconst 1, 1) := by decide +kernel
theorem dX9_witnesses_16 : decode cX9_witnesses 16 = .ok (.invokevirtual 74, 3) := by decide +kernel
theorem dX9_witnesses_19 : decode cX9_witnesses 19 = .ok (.ireturn, 1) := by decide +kernel
theorem dX9_witnesses_20 : decode cX9_witnesses 20 = .ok (.iconst (-1), 1) := by decide +kernel
theorem dX9_witnesses_21 : decode cX9_witnesses 21 = .ok (.istore_n 2, 1) := by decide +kernel
theorem dX9_witnesses_22 : decode cX9_witnesses 22 = .ok (.iconst 0, 1) := by decide +kernel
theorem dX9_witnesses_23 : decode cX9_witnesses 23 = .ok (.istore_n 3, 1) := by decide +kernel
theorem dX9_witnesses_24 : decode cX9_witnesses 24 = .ok (.iload_n 3, 1) := by decide +kernel
theorem dX9_witnesses_25 : decode cX9_witnesses 25 = .ok (.iconst 1, 1) := by decide +kernel
theorem dX9_witnesses_26 : decode cX9_witnesses 26 = .ok (.aload_n 0, 1) := by decide +kernel
theorem dX9_witnesses_27 : decode cX9_witnesses 27 = .ok (.getfield 10, 3) := by decide +kernel
theorem dX9_witnesses_30 : decode cX9_witnesses 30 = .ok (.getfield 65, 3) := by decide +kernel
theorem dX9_witnesses_33 : decode cX9_witnesses 33 = .ok (.getfield 69, 3) := by decide +kernel
theorem dX9_witnesses_36 : decode cX9_witnesses 36 = .ok (.ishl, 1) := by decide +kernel
theorem dX9_witnesses_37 : decode cX9_witnesses 37 = .ok (.if_icmp .ge 56, 3) := by decide +kernel
theorem dX9_witnesses_40 : decode cX9_witnesses 40 = .ok (.iload_n 2, 1) := by decide +kernel
theorem dX9_witnesses_41 : decode cX9_witnesses 41 = .ok (.ifCond .lt 14, 3) := by decide +kernel
theorem dX9_witnesses_44 : decode cX9_witnesses 44 = .ok (.iload_n 3, 1) := by decide +kernel
theorem dX9_witnesses_45 : decode cX9_witnesses 45 = .ok (.invokestatic 228, 3) := by decide +kernel
theorem dX9_witnesses_48 : decode cX9_witnesses 48 = .ok (.iload_n 2, 1) := by decide +kernel
theorem dX9_witnesses_49 : decode cX9_witnesses 49 = .ok (.invokestatic 228, 3) := by decide +kernel
theorem dX9_witnesses_52 : decode cX9_witnesses 52 = .ok (.if_icmp .ge 7, 3) := by decide +kernel
theorem dX9_witnesses_55 : decode cX9_witnesses 55 = .ok (.iconst 1, 1) := by decide +kernel
theorem dX9_witnesses_56 : decode cX9_witnesses 56 = .ok (.goto 4, 3) := by decide +kernel
theorem dX9_witnesses_59 : decode cX9_witnesses 59 = .ok (.iconst 0, 1) := by decide +kernel
theorem dX9_witnesses_60 : decode cX9_witnesses 60 = .ok (.istore 4, 2) := by decide +kernel
theorem dX9_witnesses_62 : decode cX9_witnesses 62 = .ok (.iload 4, 2) := by decide +kernel
theorem dX9_witnesses_64 : decode cX9_witnesses 64 = .ok (.ifCond .eq 23, 3) := by decide +kernel
theorem dX9_witnesses_67 : decode cX9_witnesses 67 = .ok (.iload_n 1, 1) := by decide +kernel
theorem dX9_witnesses_68 : decode cX9_witnesses 68 = .ok (.aload_n 0, 1) := by decide +kernel
theorem dX9_witnesses_69 : decode cX9_witnesses 69 = .ok (.getfield 10, 3) := by decide +kernel
theorem dX9_witnesses_72 : decode cX9_witnesses 72 = .ok (.getfield 97, 3) := by decide +kernel
theorem dX9_witnesses_75 : decode cX9_witnesses 75 = .ok (.iload_n 3, 1) := by decide +kernel
theorem dX9_witnesses_76 : decode cX9_witnesses 76 = .ok (.invokevirtual 233, 3) := by decide +kernel
theorem dX9_witnesses_79 : decode cX9_witnesses 79 = .ok (.iconst (-1), 1) := by decide +kernel
theorem dX9_witnesses_80 : decode cX9_witnesses 80 = .ok (.ixor, 1) := by decide +kernel
theorem dX9_witnesses_81 : decode cX9_witnesses 81 = .ok (.iand, 1) := by decide +kernel
theorem dX9_witnesses_82 : decode cX9_witnesses 82 = .ok (.ifCond .ne 5, 3) := by decide +kernel
theorem dX9_witnesses_85 : decode cX9_witnesses 85 = .ok (.iload_n 3, 1) := by decide +kernel
theorem dX9_witnesses_86 : decode cX9_witnesses 86 = .ok (.istore_n 2, 1) := by decide +kernel
theorem dX9_witnesses_87 : decode cX9_witnesses 87 = .ok (.iinc 3 1, 3) := by decide +kernel
theorem dX9_witnesses_90 : decode cX9_witnesses 90 = .ok (.goto (-66), 3) := by decide +kernel
theorem dX9_witnesses_93 : decode cX9_witnesses 93 = .ok (.iload_n 2, 1) := by decide +kernel
theorem dX9_witnesses_94 : decode cX9_witnesses 94 = .ok (.ifCond .ge 11, 3) := by decide +kernel
theorem dX9_witnesses_97 : decode cX9_witnesses 97 = .ok (.aload_n 0, 1) := by decide +kernel
theorem dX9_witnesses_98 : decode cX9_witnesses 98 = .ok (.iconst 2, 1) := by decide +kernel
theorem dX9_witnesses_99 : decode cX9_witnesses 99 = .ok (.invokevirtual 74, 3) := by decide +kernel
theorem dX9_witnesses_102 : decode cX9_witnesses 102 = .ok (.goto 4, 3) := by decide +kernel
theorem dX9_witnesses_105 : decode cX9_witnesses 105 = .ok (.iload_n 2, 1) := by decide +kernel
theorem dX9_witnesses_106 : decode cX9_witnesses 106 = .ok (.ireturn, 1) := by decide +kernel
theorem dX9_odds_0 : decode cX9_odds 0 = .ok (.aload_n 0, 1) := by decide +kernel
theorem dX9_odds_1 : decode cX9_odds 1 = .ok (.getfield 10, 3) := by decide +kernel
theorem dX9_odds_4 : decode cX9_odds 4 = .ok (.getfield 65, 3) := by decide +kernel
theorem dX9_odds_7 : decode cX9_odds 7 = .ok (.iload_n 1, 1) := by decide +kernel
theorem dX9_odds_8 : decode cX9_odds 8 = .ok (.invokevirtual 82, 3) := by decide +kernel
theorem dX9_odds_11 : decode cX9_odds 11 = .ok (.ifCond .eq 12, 3) := by decide +kernel
theorem dX9_odds_14 : decode cX9_odds 14 = .ok (.iload_n 2, 1) := by decide +kernel
theorem dX9_odds_15 : decode cX9_odds 15 = .ok (.ifCond .lt 8, 3) := by decide +kernel
theorem dX9_odds_18 : decode cX9_odds 18 = .ok (.iload_n 2, 1) := by decide +kernel
theorem dX9_odds_19 : decode cX9_odds 19 = .ok (.iconst 1, 1) := by decide +kernel
theorem dX9_odds_20 : decode cX9_odds 20 = .ok (.if_icmp .le 9, 3) := by decide +kernel
theorem dX9_odds_23 : decode cX9_odds 23 = .ok (.aload_n 0, 1) := by decide +kernel
theorem dX9_odds_24 : decode cX9_odds 24 = .ok (.iconst 1, 1) := by decide +kernel
theorem dX9_odds_25 : decode cX9_odds 25 = .ok (.invokevirtual 74, 3) := by decide +kernel
theorem dX9_odds_28 : decode cX9_odds 28 = .ok (.ireturn, 1) := by decide +kernel
theorem dX9_odds_29 : decode cX9_odds 29 = .ok (.aload_n 0, 1) := by decide +kernel
theorem dX9_odds_30 : decode cX9_odds 30 = .ok (.getfield 10, 3) := by decide +kernel
theorem dX9_odds_33 : decode cX9_odds 33 = .ok (.getfield 65, 3) := by decide +kernel
theorem dX9_odds_36 : decode cX9_odds 36 = .ok (.getfield 69, 3) := by decide +kernel
theorem dX9_odds_39 : decode cX9_odds 39 = .ok (.iconst 1, 1) := by decide +kernel
theorem dX9_odds_40 : decode cX9_odds 40 = .ok (.isub, 1) := by decide +kernel
theorem dX9_odds_41 : decode cX9_odds 41 = .ok (.istore_n 3, 1) := by decide +kernel
theorem dX9_odds_42 : decode cX9_odds 42 = .ok (.iload_n 3, 1) := by decide +kernel
theorem dX9_odds_43 : decode cX9_odds 43 = .ok (.iconst 1, 1) := by decide +kernel
theorem dX9_odds_44 : decode cX9_odds 44 = .ok (.if_icmp .ge 9, 3) := by decide +kernel
theorem dX9_odds_47 : decode cX9_odds 47 = .ok (.aload_n 0, 1) := by decide +kernel
theorem dX9_odds_48 : decode cX9_odds 48 = .ok (.iconst 3, 1) := by decide +kernel
theorem dX9_odds_49 : decode cX9_odds 49 = .ok (.invokevirtual 74, 3) := by decide +kernel
theorem dX9_odds_52 : decode cX9_odds 52 = .ok (.ireturn, 1) := by decide +kernel
theorem dX9_odds_53 : decode cX9_odds 53 = .ok (.aload_n 0, 1) := by decide +kernel
theorem dX9_odds_54 : decode cX9_odds 54 = .ok (.getfield 10, 3) := by decide +kernel
theorem dX9_odds_57 : decode cX9_odds 57 = .ok (.iload_n 1, 1) := by decide +kernel
theorem dX9_odds_58 : decode cX9_odds 58 = .ok (.invokevirtual 236, 3) := by decide +kernel
theorem dX9_odds_61 : decode cX9_odds 61 = .ok (.istore 4, 2) := by decide +kernel
theorem dX9_odds_63 : decode cX9_odds 63 = .ok (.iload 4, 2) := by decide +kernel
theorem dX9_odds_65 : decode cX9_odds 65 = .ok (.iload_n 3, 1) := by decide +kernel
theorem dX9_odds_66 : decode cX9_odds 66 = .ok (.invokestatic 239, 3) := by decide +kernel
theorem dX9_odds_69 : decode cX9_odds 69 = .ok (.istore 5, 2) := by decide +kernel
theorem dX9_odds_71 : decode cX9_odds 71 = .ok (.iload_n 2, 1) := by decide +kernel
theorem dX9_odds_72 : decode cX9_odds 72 = .ok (.ifCond .ne 8, 3) := by decide +kernel
theorem dX9_odds_75 : decode cX9_odds 75 = .ok (.iload 4, 2) := by decide +kernel
theorem dX9_odds_77 : decode cX9_odds 77 = .ok (.goto 4, 3) := by decide +kernel
theorem dX9_odds_80 : decode cX9_odds 80 = .ok (.iload_n 3, 1) := by decide +kernel
theorem dX9_odds_81 : decode cX9_odds 81 = .ok (.iload 5, 2) := by decide +kernel
theorem dX9_odds_83 : decode cX9_odds 83 = .ok (.iconst 1, 1) := by decide +kernel
theorem dX9_odds_84 : decode cX9_odds 84 = .ok (.invokestatic 242, 3) := by decide +kernel
theorem dX9_odds_87 : decode cX9_odds 87 = .ok (.idiv, 1) := by decide +kernel
theorem dX9_odds_88 : decode cX9_odds 88 = .ok (.ireturn, 1) := by decide +kernel
theorem dX9_fits_0 : decode cX9_fits 0 = .ok (.iload_n 1, 1) := by decide +kernel
theorem dX9_fits_1 : decode cX9_fits 1 = .ok (.invokestatic 247, 3) := by decide +kernel
theorem dX9_fits_4 : decode cX9_fits 4 = .ok (.ifCond .eq 26, 3) := by decide +kernel
theorem dX9_fits_7 : decode cX9_fits 7 = .ok (.aload_n 0, 1) := by decide +kernel
theorem dX9_fits_8 : decode cX9_fits 8 = .ok (.getfield 10, 3) := by decide +kernel
theorem dX9_fits_11 : decode cX9_fits 11 = .ok (.getfield 65, 3) := by decide +kernel
theorem dX9_fits_14 : decode cX9_fits 14 = .ok (.iload_n 2, 1) := by decide +kernel
theorem dX9_fits_15 : decode cX9_fits 15 = .ok (.invokevirtual 82, 3) := by decide +kernel
theorem dX9_fits_18 : decode cX9_fits 18 = .ok (.ifCond .eq 12, 3) := by decide +kernel
theorem dX9_fits_21 : decode cX9_fits 21 = .ok (.iload_n 3, 1) := by decide +kernel
theorem dX9_fits_22 : decode cX9_fits 22 = .ok (.ifCond .lt 8, 3) := by decide +kernel
theorem dX9_fits_25 : decode cX9_fits 25 = .ok (.iload_n 3, 1) := by decide +kernel
theorem dX9_fits_26 : decode cX9_fits 26 = .ok (.iconst 1, 1) := by decide +kernel
theorem dX9_fits_27 : decode cX9_fits 27 = .ok (.if_icmp .le 9, 3) := by decide +kernel
theorem dX9_fits_30 : decode cX9_fits 30 = .ok (.aload_n 0, 1) := by decide +kernel
theorem dX9_fits_31 : decode cX9_fits 31 = .ok (.iconst 1, 1) := by decide +kernel
theorem dX9_fits_32 : decode cX9_fits 32 = .ok (.invokevirtual 74, 3) := by decide +kernel
theorem dX9_fits_35 : decode cX9_fits 35 = .ok (.ireturn, 1) := by decide +kernel
theorem dX9_fits_36 : decode cX9_fits 36 = .ok (.aload_n 0, 1) := by decide +kernel
theorem dX9_fits_37 : decode cX9_fits 37 = .ok (.getfield 48, 3) := by decide +kernel
theorem dX9_fits_40 : decode cX9_fits 40 = .ok (.iload_n 1, 1) := by decide +kernel
theorem dX9_fits_41 : decode cX9_fits 41 = .ok (.aaload, 1) := by decide +kernel
theorem dX9_fits_42 : decode cX9_fits 42 = .ok (.invokevirtual 250, 3) := by decide +kernel
theorem dX9_fits_45 : decode cX9_fits 45 = .ok (.ifCond .eq 9, 3) := by decide +kernel
theorem dX9_fits_48 : decode cX9_fits 48 = .ok (.aload_n 0, 1) := by decide +kernel
theorem dX9_fits_49 : decode cX9_fits 49 = .ok (.iconst 2, 1) := by decide +kernel
theorem dX9_fits_50 : decode cX9_fits 50 = .ok (.invokevirtual 74, 3) := by decide +kernel
theorem dX9_fits_53 : decode cX9_fits 53 = .ok (.ireturn, 1) := by decide +kernel
theorem dX9_fits_54 : decode cX9_fits 54 = .ok (.aload_n 0, 1) := by decide +kernel
theorem dX9_fits_55 : decode cX9_fits 55 = .ok (.getfield 10, 3) := by decide +kernel
theorem dX9_fits_58 : decode cX9_fits 58 = .ok (.aload_n 0, 1) := by decide +kernel
theorem dX9_fits_59 : decode cX9_fits 59 = .ok (.getfield 48, 3) := by decide +kernel
theorem dX9_fits_62 : decode cX9_fits 62 = .ok (.iload_n 1, 1) := by decide +kernel
theorem dX9_fits_63 : decode cX9_fits 63 = .ok (.aaload, 1) := by decide +kernel
theorem dX9_fits_64 : decode cX9_fits 64 = .ok (.getfield 253, 3) := by decide +kernel
theorem dX9_fits_67 : decode cX9_fits 67 = .ok (.iload_n 2, 1) := by decide +kernel
theorem dX9_fits_68 : decode cX9_fits 68 = .ok (.invokevirtual 256, 3) := by decide +kernel
theorem dX9_fits_71 : decode cX9_fits 71 = .ok (.istore 4, 2) := by decide +kernel
theorem dX9_fits_73 : decode cX9_fits 73 = .ok (.iload_n 3, 1) := by decide +kernel
theorem dX9_fits_74 : decode cX9_fits 74 = .ok (.ifCond .ne 8, 3) := by decide +kernel
theorem dX9_fits_77 : decode cX9_fits 77 = .ok (.iload 4, 2) := by decide +kernel
theorem dX9_fits_79 : decode cX9_fits 79 = .ok (.goto 8, 3) := by decide +kernel
theorem dX9_fits_82 : decode cX9_fits 82 = .ok (.iload 4, 2) := by decide +kernel
theorem dX9_fits_84 : decode cX9_fits 84 = .ok (.invokestatic 228, 3) := by decide +kernel
theorem dX9_fits_87 : decode cX9_fits 87 = .ok (.ireturn, 1) := by decide +kernel
theorem dX9_voice_0 : decode cX9_voice 0 = .ok (.aload_n 0, 1) := by decide +kernel
theorem dX9_voice_1 : decode cX9_voice 1 = .ok (.getfield 10, 3) := by decide +kernel
theorem dX9_voice_4 : decode cX9_voice 4 = .ok (.getfield 65, 3) := by decide +kernel
theorem dX9_voice_7 : decode cX9_voice 7 = .ok (.iload_n 1, 1) := by decide +kernel
theorem dX9_voice_8 : decode cX9_voice 8 = .ok (.invokevirtual 82, 3) := by decide +kernel
theorem dX9_voice_11 : decode cX9_voice 11 = .ok (.ifCond .eq 10, 3) := by decide +kernel
theorem dX9_voice_14 : decode cX9_voice 14 = .ok (.iload_n 2, 1) := by decide +kernel
theorem dX9_voice_15 : decode cX9_voice 15 = .ok (.invokestatic 260, 3) := by decide +kernel
theorem dX9_voice_18 : decode cX9_voice 18 = .ok (.ifCond .ne 9, 3) := by decide +kernel
theorem dX9_voice_21 : decode cX9_voice 21 = .ok (.aload_n 0, 1) := by decide +kernel
theorem dX9_voice_22 : decode cX9_voice 22 = .ok (.iconst 1, 1) := by decide +kernel
theorem dX9_voice_23 : decode cX9_voice 23 = .ok (.invokevirtual 74, 3) := by decide +kernel
theorem dX9_voice_26 : decode cX9_voice 26 = .ok (.ireturn, 1) := by decide +kernel
theorem dX9_voice_27 : decode cX9_voice 27 = .ok (.aload_n 0, 1) := by decide +kernel
theorem dX9_voice_28 : decode cX9_voice 28 = .ok (.getfield 42, 3) := by decide +kernel
theorem dX9_voice_31 : decode cX9_voice 31 = .ok (.aload_n 0, 1) := by decide +kernel
theorem dX9_voice_32 : decode cX9_voice 32 = .ok (.getfield 10, 3) := by decide +kernel
theorem dX9_voice_35 : decode cX9_voice 35 = .ok (.getfield 65, 3) := by decide +kernel
theorem dX9_voice_38 : decode cX9_voice 38 = .ok (.getfield 85, 3) := by decide +kernel
theorem dX9_voice_41 : decode cX9_voice 41 = .ok (.iload_n 1, 1) := by decide +kernel
theorem dX9_voice_42 : decode cX9_voice 42 = .ok (.iaload, 1) := by decide +kernel
theorem dX9_voice_43 : decode cX9_voice 43 = .ok (.iload_n 1, 1) := by decide +kernel
theorem dX9_voice_44 : decode cX9_voice 44 = .ok (.aload_n 0, 1) := by decide +kernel
theorem dX9_voice_45 : decode cX9_voice 45 = .ok (.getfield 10, 3) := by decide +kernel
theorem dX9_voice_48 : decode cX9_voice 48 = .ok (.getfield 65, 3) := by decide +kernel
theorem dX9_voice_51 : decode cX9_voice 51 = .ok (.getfield 88, 3) := by decide +kernel
theorem dX9_voice_54 : decode cX9_voice 54 = .ok (.iload_n 1, 1) := by decide +kernel
theorem dX9_voice_55 : decode cX9_voice 55 = .ok (.iaload, 1) := by decide +kernel
theorem dX9_voice_56 : decode cX9_voice 56 = .ok (.invokevirtual 263, 3) := by decide +kernel
theorem dX9_voice_59 : decode cX9_voice 59 = .ok (.aload_n 0, 1) := by decide +kernel
theorem dX9_voice_60 : decode cX9_voice 60 = .ok (.getfield 42, 3) := by decide +kernel
theorem dX9_voice_63 : decode cX9_voice 63 = .ok (.iload_n 2, 1) := by decide +kernel
theorem dX9_voice_64 : decode cX9_voice 64 = .ok (.iload_n 3, 1) := by decide +kernel
theorem dX9_voice_65 : decode cX9_voice 65 = .ok (.invokevirtual 267, 3) := by decide +kernel
theorem dX9_voice_68 : decode cX9_voice 68 = .ok (.istore 4, 2) := by decide +kernel
theorem dX9_voice_70 : decode cX9_voice 70 = .ok (.aload_n 0, 1) := by decide +kernel
theorem dX9_voice_71 : decode cX9_voice 71 = .ok (.getfield 42, 3) := by decide +kernel
theorem dX9_voice_74 : decode cX9_voice 74 = .ok (.getfield 270, 3) := by decide +kernel
theorem dX9_voice_77 : decode cX9_voice 77 = .ok (.ifCond .eq 12, 3) := by decide +kernel
theorem dX9_voice_80 : decode cX9_voice 80 = .ok (.aload_n 0, 1) := by decide +kernel
theorem dX9_voice_81 : decode cX9_voice 81 = .ok (.bipush 6, 2) := by decide +kernel
theorem dX9_voice_83 : decode cX9_voice 83 = .ok (.invokevirtual 74, 3) := by decide +kernel
theorem dX9_voice_86 : decode cX9_voice 86 = .ok (.goto 5, 3) := by decide +kernel
theorem dX9_voice_89 : decode cX9_voice 89 = .ok (.iload 4, 2) := by decide +kernel
theorem dX9_voice_91 : decode cX9_voice 91 = .ok (.ireturn, 1) := by decide +kernel
theorem dX9_body_0 : decode cX9_body 0 = .ok (.aload_n 0, 1) := by decide +kernel
theorem dX9_body_1 : decode cX9_body 1 = .ok (.getfield 42, 3) := by decide +kernel
theorem dX9_body_4 : decode cX9_body 4 = .ok (.getfield 274, 3) := by decide +kernel
theorem dX9_body_7 : decode cX9_body 7 = .ok (.iload_n 1, 1) := by decide +kernel
theorem dX9_body_8 : decode cX9_body 8 = .ok (.invokevirtual 277, 3) := by decide +kernel
theorem dX9_body_11 : decode cX9_body 11 = .ok (.ifCond .ne 9, 3) := by decide +kernel
theorem dX9_body_14 : decode cX9_body 14 = .ok (.aload_n 0, 1) := by decide +kernel
theorem dX9_body_15 : decode cX9_body 15 = .ok (.iconst 2, 1) := by decide +kernel
theorem dX9_body_16 : decode cX9_body 16 = .ok (.invokevirtual 74, 3) := by decide +kernel
theorem dX9_body_19 : decode cX9_body 19 = .ok (.ireturn, 1) := by decide +kernel
theorem dX9_body_20 : decode cX9_body 20 = .ok (.aload_n 0, 1) := by decide +kernel
theorem dX9_body_21 : decode cX9_body 21 = .ok (.getfield 42, 3) := by decide +kernel
theorem dX9_body_24 : decode cX9_body 24 = .ok (.getfield 274, 3) := by decide +kernel
theorem dX9_body_27 : decode cX9_body 27 = .ok (.iload_n 1, 1) := by decide +kernel
theorem dX9_body_28 : decode cX9_body 28 = .ok (.invokevirtual 280, 3) := by decide +kernel
theorem dX9_body_31 : decode cX9_body 31 = .ok (.ireturn, 1) := by decide +kernel
theorem dX9_sheet_0 : decode cX9_sheet 0 = .ok (.iload_n 1, 1) := by decide +kernel
theorem dX9_sheet_1 : decode cX9_sheet 1 = .ok (.invokestatic 247, 3) := by decide +kernel
theorem dX9_sheet_4 : decode cX9_sheet 4 = .ok (.ifCond .eq 10, 3) := by decide +kernel
theorem dX9_sheet_7 : decode cX9_sheet 7 = .ok (.iload_n 2, 1) := by decide +kernel
theorem dX9_sheet_8 : decode cX9_sheet 8 = .ok (.invokestatic 283, 3) := by decide +kernel
theorem dX9_sheet_11 : decode cX9_sheet 11 = .ok (.ifCond .ne 9, 3) := by decide +kernel
theorem dX9_sheet_14 : decode cX9_sheet 14 = .ok (.aload_n 0, 1) := by decide +kernel
theorem dX9_sheet_15 : decode cX9_sheet 15 = .ok (.iconst 1, 1) := by decide +kernel
theorem dX9_sheet_16 : decode cX9_sheet 16 = .ok (.invokevirtual 74, 3) := by decide +kernel
theorem dX9_sheet_19 : decode cX9_sheet 19 = .ok (.ireturn, 1) := by decide +kernel
theorem dX9_sheet_20 : decode cX9_sheet 20 = .ok (.iload_n 2, 1) := by decide +kernel
theorem dX9_sheet_21 : decode cX9_sheet 21 = .ok (.ifCond .eq 13, 3) := by decide +kernel
theorem dX9_sheet_24 : decode cX9_sheet 24 = .ok (.iload_n 3, 1) := by decide +kernel
theorem dX9_sheet_25 : decode cX9_sheet 25 = .ok (.ifCond .ge 9, 3) := by decide +kernel
theorem dX9_sheet_28 : decode cX9_sheet 28 = .ok (.aload_n 0, 1) := by decide +kernel
theorem dX9_sheet_29 : decode cX9_sheet 29 = .ok (.iconst 3, 1) := by decide +kernel
theorem dX9_sheet_30 : decode cX9_sheet 30 = .ok (.invokevirtual 74, 3) := by decide +kernel
theorem dX9_sheet_33 : decode cX9_sheet 33 = .ok (.ireturn, 1) := by decide +kernel
theorem dX9_sheet_34 : decode cX9_sheet 34 = .ok (.iload_n 2, 1) := by decide +kernel
theorem dX9_sheet_35 : decode cX9_sheet 35 = .ok (.ifCond .eq 15, 3) := by decide +kernel
theorem dX9_sheet_38 : decode cX9_sheet 38 = .ok (.iload_n 3, 1) := by decide +kernel
theorem dX9_sheet_39 : decode cX9_sheet 39 = .ok (.bipush 24, 2) := by decide +kernel
theorem dX9_sheet_41 : decode cX9_sheet 41 = .ok (.if_icmp .le 9, 3) := by decide +kernel
theorem dX9_sheet_44 : decode cX9_sheet 44 = .ok (.aload_n 0, 1) := by decide +kernel
theorem dX9_sheet_45 : decode cX9_sheet 45 = .ok (.iconst 1, 1) := by decide +kernel
theorem dX9_sheet_46 : decode cX9_sheet 46 = .ok (.invokevirtual 74, 3) := by decide +kernel
theorem dX9_sheet_49 : decode cX9_sheet 49 = .ok (.ireturn, 1) := by decide +kernel
theorem dX9_sheet_50 : decode cX9_sheet 50 = .ok (.aload_n 0, 1) := by decide +kernel
theorem dX9_sheet_51 : decode cX9_sheet 51 = .ok (.getfield 48, 3) := by decide +kernel
theorem dX9_sheet_54 : decode cX9_sheet 54 = .ok (.iload_n 1, 1) := by decide +kernel
theorem dX9_sheet_55 : decode cX9_sheet 55 = .ok (.aaload, 1) := by decide +kernel
theorem dX9_sheet_56 : decode cX9_sheet 56 = .ok (.iload_n 2, 1) := by decide +kernel
theorem dX9_sheet_57 : decode cX9_sheet 57 = .ok (.iload_n 3, 1) := by decide +kernel
theorem dX9_sheet_58 : decode cX9_sheet 58 = .ok (.invokevirtual 286, 3) := by decide +kernel
theorem dX9_sheet_61 : decode cX9_sheet 61 = .ok (.iconst 1, 1) := by decide +kernel
theorem dX9_sheet_62 : decode cX9_sheet 62 = .ok (.ireturn, 1) := by decide +kernel
theorem dX9_put_0 : decode cX9_put 0 = .ok (.iload_n 1, 1) := by decide +kernel
theorem dX9_put_1 : decode cX9_put 1 = .ok (.invokestatic 247, 3) := by decide +kernel
theorem dX9_put_4 : decode cX9_put 4 = .ok (.ifCond .ne 9, 3) := by decide +kernel
theorem dX9_put_7 : decode cX9_put 7 = .ok (.aload_n 0, 1) := by decide +kernel
theorem dX9_put_8 : decode cX9_put 8 = .ok (.iconst 1, 1) := by decide +kernel
theorem dX9_put_9 : decode cX9_put 9 = .ok (.invokevirtual 74, 3) := by decide +kernel
theorem dX9_put_12 : decode cX9_put 12 = .ok (.ireturn, 1) := by decide +kernel
theorem dX9_put_13 : decode cX9_put 13 = .ok (.aload_n 0, 1) := by decide +kernel
theorem dX9_put_14 : decode cX9_put 14 = .ok (.getfield 48, 3) := by decide +kernel
theorem dX9_put_17 : decode cX9_put 17 = .ok (.iload_n 1, 1) := by decide +kernel
theorem dX9_put_18 : decode cX9_put 18 = .ok (.aaload, 1) := by decide +kernel
theorem dX9_put_19 : decode cX9_put 19 = .ok (.invokevirtual 250, 3) := by decide +kernel
theorem dX9_put_22 : decode cX9_put 22 = .ok (.ifCond .eq 9, 3) := by decide +kernel
theorem dX9_put_25 : decode cX9_put 25 = .ok (.aload_n 0, 1) := by decide +kernel
theorem dX9_put_26 : decode cX9_put 26 = .ok (.iconst 2, 1) := by decide +kernel
theorem dX9_put_27 : decode cX9_put 27 = .ok (.invokevirtual 74, 3) := by decide +kernel
theorem dX9_put_30 : decode cX9_put 30 = .ok (.ireturn, 1) := by decide +kernel
theorem dX9_put_31 : decode cX9_put 31 = .ok (.aload_n 0, 1) := by decide +kernel
theorem dX9_put_32 : decode cX9_put 32 = .ok (.getfield 48, 3) := by decide +kernel
theorem dX9_put_35 : decode cX9_put 35 = .ok (.iload_n 1, 1) := by decide +kernel
theorem dX9_put_36 : decode cX9_put 36 = .ok (.aaload, 1) := by decide +kernel
theorem dX9_put_37 : decode cX9_put 37 = .ok (.getfield 253, 3) := by decide +kernel
theorem dX9_put_40 : decode cX9_put 40 = .ok (.iload_n 2, 1) := by decide +kernel
theorem dX9_put_41 : decode cX9_put 41 = .ok (.invokevirtual 277, 3) := by decide +kernel
theorem dX9_put_44 : decode cX9_put 44 = .ok (.ifCond .ne 9, 3) := by decide +kernel
theorem dX9_put_47 : decode cX9_put 47 = .ok (.aload_n 0, 1) := by decide +kernel
theorem dX9_put_48 : decode cX9_put 48 = .ok (.iconst 1, 1) := by decide +kernel
theorem dX9_put_49 : decode cX9_put 49 = .ok (.invokevirtual 74, 3) := by decide +kernel
theorem dX9_put_52 : decode cX9_put 52 = .ok (.ireturn, 1) := by decide +kernel
theorem dX9_put_53 : decode cX9_put 53 = .ok (.aload_n 0, 1) := by decide +kernel
theorem dX9_put_54 : decode cX9_put 54 = .ok (.getfield 48, 3) := by decide +kernel
theorem dX9_put_57 : decode cX9_put 57 = .ok (.iload_n 1, 1) := by decide +kernel
theorem dX9_put_58 : decode cX9_put 58 = .ok (.aaload, 1) := by decide +kernel
theorem dX9_put_59 : decode cX9_put 59 = .ok (.iload_n 2, 1) := by decide +kernel
theorem dX9_put_60 : decode cX9_put 60 = .ok (.iload_n 3, 1) := by decide +kernel
theorem dX9_put_61 : decode cX9_put 61 = .ok (.invokevirtual 289, 3) := by decide +kernel
theorem dX9_put_64 : decode cX9_put 64 = .ok (.iconst 1, 1) := by decide +kernel
theorem dX9_put_65 : decode cX9_put 65 = .ok (.ireturn, 1) := by decide +kernel
theorem dX9_move_0 : decode cX9_move 0 = .ok (.iload_n 1, 1) := by decide +kernel
theorem dX9_move_1 : decode cX9_move 1 = .ok (.invokestatic 247, 3) := by decide +kernel
theorem dX9_move_4 : decode cX9_move 4 = .ok (.ifCond .eq 10, 3) := by decide +kernel
theorem dX9_move_7 : decode cX9_move 7 = .ok (.iload_n 3, 1) := by decide +kernel
theorem dX9_move_8 : decode cX9_move 8 = .ok (.invokestatic 247, 3) := by decide +kernel
theorem dX9_move_11 : decode cX9_move 11 = .ok (.ifCond .ne 9, 3) := by decide +kernel
theorem dX9_move_14 : decode cX9_move 14 = .ok (.aload_n 0, 1) := by decide +kernel
theorem dX9_move_15 : decode cX9_move 15 = .ok (.iconst 1, 1) := by decide +kernel
theorem dX9_move_16 : decode cX9_move 16 = .ok (.invokevirtual 74, 3) := by decide +kernel
theorem dX9_move_19 : decode cX9_move 19 = .ok (.ireturn, 1) := by decide +kernel
theorem dX9_move_20 : decode cX9_move 20 = .ok (.aload_n 0, 1) := by decide +kernel
theorem dX9_move_21 : decode cX9_move 21 = .ok (.getfield 48, 3) := by decide +kernel
theorem dX9_move_24 : decode cX9_move 24 = .ok (.iload_n 1, 1) := by decide +kernel
theorem dX9_move_25 : decode cX9_move 25 = .ok (.aaload, 1) := by decide +kernel
theorem dX9_move_26 : decode cX9_move 26 = .ok (.invokevirtual 250, 3) := by decide +kernel
theorem dX9_move_29 : decode cX9_move 29 = .ok (.ifCond .ne 15, 3) := by decide +kernel
theorem dX9_move_32 : decode cX9_move 32 = .ok (.aload_n 0, 1) := by decide +kernel
theorem dX9_move_33 : decode cX9_move 33 = .ok (.getfield 48, 3) := by decide +kernel
theorem dX9_move_36 : decode cX9_move 36 = .ok (.iload_n 3, 1) := by decide +kernel
theorem dX9_move_37 : decode cX9_move 37 = .ok (.aaload, 1) := by decide +kernel
theorem dX9_move_38 : decode cX9_move 38 = .ok (.invokevirtual 250, 3) := by decide +kernel
theorem dX9_move_41 : decode cX9_move 41 = .ok (.ifCond .eq 9, 3) := by decide +kernel
theorem dX9_move_44 : decode cX9_move 44 = .ok (.aload_n 0, 1) := by decide +kernel
theorem dX9_move_45 : decode cX9_move 45 = .ok (.iconst 2, 1) := by decide +kernel
theorem dX9_move_46 : decode cX9_move 46 = .ok (.invokevirtual 74, 3) := by decide +kernel
theorem dX9_move_49 : decode cX9_move 49 = .ok (.ireturn, 1) := by decide +kernel
theorem dX9_move_50 : decode cX9_move 50 = .ok (.aload_n 0, 1) := by decide +kernel
theorem dX9_move_51 : decode cX9_move 51 = .ok (.getfield 48, 3) := by decide +kernel
theorem dX9_move_54 : decode cX9_move 54 = .ok (.iload_n 1, 1) := by decide +kernel
theorem dX9_move_55 : decode cX9_move 55 = .ok (.aaload, 1) := by decide +kernel
theorem dX9_move_56 : decode cX9_move 56 = .ok (.getfield 292, 3) := by decide +kernel
theorem dX9_move_59 : decode cX9_move 59 = .ok (.aload_n 0, 1) := by decide +kernel
theorem dX9_move_60 : decode cX9_move 60 = .ok (.getfield 48, 3) := by decide +kernel
theorem dX9_move_63 : decode cX9_move 63 = .ok (.iload_n 3, 1) := by decide +kernel
theorem dX9_move_64 : decode cX9_move 64 = .ok (.aaload, 1) := by decide +kernel
theorem dX9_move_65 : decode cX9_move 65 = .ok (.getfield 292, 3) := by decide +kernel
theorem dX9_move_68 : decode cX9_move 68 = .ok (.if_icmp .eq 9, 3) := by decide +kernel
theorem dX9_move_71 : decode cX9_move 71 = .ok (.aload_n 0, 1) := by decide +kernel
theorem dX9_move_72 : decode cX9_move 72 = .ok (.iconst 5, 1) := by decide +kernel
theorem dX9_move_73 : decode cX9_move 73 = .ok (.invokevirtual 74, 3) := by decide +kernel
theorem dX9_move_76 : decode cX9_move 76 = .ok (.ireturn, 1) := by decide +kernel
theorem dX9_move_77 : decode cX9_move 77 = .ok (.aload_n 0, 1) := by decide +kernel
theorem dX9_move_78 : decode cX9_move 78 = .ok (.getfield 48, 3) := by decide +kernel
theorem dX9_move_81 : decode cX9_move 81 = .ok (.iload_n 1, 1) := by decide +kernel
theorem dX9_move_82 : decode cX9_move 82 = .ok (.aaload, 1) := by decide +kernel
theorem dX9_move_83 : decode cX9_move 83 = .ok (.getfield 253, 3) := by decide +kernel
theorem dX9_move_86 : decode cX9_move 86 = .ok (.iload_n 2, 1) := by decide +kernel
theorem dX9_move_87 : decode cX9_move 87 = .ok (.iload 5, 2) := by decide +kernel
theorem dX9_move_89 : decode cX9_move 89 = .ok (.invokevirtual 295, 3) := by decide +kernel
theorem dX9_move_92 : decode cX9_move 92 = .ok (.ifCond .eq 22, 3) := by decide +kernel
theorem dX9_move_95 : decode cX9_move 95 = .ok (.aload_n 0, 1) := by decide +kernel
theorem dX9_move_96 : decode cX9_move 96 = .ok (.getfield 48, 3) := by decide +kernel
theorem dX9_move_99 : decode cX9_move 99 = .ok (.iload_n 3, 1) := by decide +kernel
theorem dX9_move_100 : decode cX9_move 100 = .ok (.aaload, 1) := by decide +kernel
theorem dX9_move_101 : decode cX9_move 101 = .ok (.getfield 253, 3) := by decide +kernel
theorem dX9_move_104 : decode cX9_move 104 = .ok (.iload 4, 2) := by decide +kernel
theorem dX9_move_106 : decode cX9_move 106 = .ok (.iload 5, 2) := by decide +kernel
theorem dX9_move_108 : decode cX9_move 108 = .ok (.invokevirtual 295, 3) := by decide +kernel
theorem dX9_move_111 : decode cX9_move 111 = .ok (.ifCond .ne 9, 3) := by decide +kernel
theorem dX9_move_114 : decode cX9_move 114 = .ok (.aload_n 0, 1) := by decide +kernel
theorem dX9_move_115 : decode cX9_move 115 = .ok (.iconst 1, 1) := by decide +kernel
theorem dX9_move_116 : decode cX9_move 116 = .ok (.invokevirtual 74, 3) := by decide +kernel
theorem dX9_move_119 : decode cX9_move 119 = .ok (.ireturn, 1) := by decide +kernel
theorem dX9_move_120 : decode cX9_move 120 = .ok (.aload_n 0, 1) := by decide +kernel
theorem dX9_move_121 : decode cX9_move 121 = .ok (.getfield 48, 3) := by decide +kernel
theorem dX9_move_124 : decode cX9_move 124 = .ok (.iload_n 3, 1) := by decide +kernel
theorem dX9_move_125 : decode cX9_move 125 = .ok (.aaload, 1) := by decide +kernel
theorem dX9_move_126 : decode cX9_move 126 = .ok (.getfield 253, 3) := by decide +kernel
theorem dX9_move_129 : decode cX9_move 129 = .ok (.iload 4, 2) := by decide +kernel
theorem dX9_move_131 : decode cX9_move 131 = .ok (.aload_n 0, 1) := by decide +kernel
theorem dX9_move_132 : decode cX9_move 132 = .ok (.getfield 48, 3) := by decide +kernel
theorem dX9_move_135 : decode cX9_move 135 = .ok (.iload_n 1, 1) := by decide +kernel
theorem dX9_move_136 : decode cX9_move 136 = .ok (.aaload, 1) := by decide +kernel
theorem dX9_move_137 : decode cX9_move 137 = .ok (.getfield 253, 3) := by decide +kernel
theorem dX9_move_140 : decode cX9_move 140 = .ok (.iload_n 2, 1) := by decide +kernel
theorem dX9_move_141 : decode cX9_move 141 = .ok (.iload 5, 2) := by decide +kernel
theorem dX9_move_143 : decode cX9_move 143 = .ok (.invokevirtual 298, 3) := by decide +kernel
theorem dX9_move_146 : decode cX9_move 146 = .ok (.iload 5, 2) := by decide +kernel
theorem dX9_move_148 : decode cX9_move 148 = .ok (.ireturn, 1) := by decide +kernel
theorem dX9_seenAll_0 : decode cX9_seenAll 0 = .ok (.iload_n 1, 1) := by decide +kernel
theorem dX9_seenAll_1 : decode cX9_seenAll 1 = .ok (.invokestatic 247, 3) := by decide +kernel
theorem dX9_seenAll_4 : decode cX9_seenAll 4 = .ok (.ifCond .ne 9, 3) := by decide +kernel
theorem dX9_seenAll_7 : decode cX9_seenAll 7 = .ok (.aload_n 0, 1) := by decide +kernel
theorem dX9_seenAll_8 : decode cX9_seenAll 8 = .ok (.iconst 1, 1) := by decide +kernel
theorem dX9_seenAll_9 : decode cX9_seenAll 9 = .ok (.invokevirtual 74, 3) := by decide +kernel
theorem dX9_seenAll_12 : decode cX9_seenAll 12 = .ok (.ireturn, 1) := by decide +kernel
theorem dX9_seenAll_13 : decode cX9_seenAll 13 = .ok (.aload_n 0, 1) := by decide +kernel
theorem dX9_seenAll_14 : decode cX9_seenAll 14 = .ok (.getfield 48, 3) := by decide +kernel
theorem dX9_seenAll_17 : decode cX9_seenAll 17 = .ok (.iload_n 1, 1) := by decide +kernel
theorem dX9_seenAll_18 : decode cX9_seenAll 18 = .ok (.aaload, 1) := by decide +kernel
theorem dX9_seenAll_19 : decode cX9_seenAll 19 = .ok (.invokevirtual 250, 3) := by decide +kernel
theorem dX9_seenAll_22 : decode cX9_seenAll 22 = .ok (.ifCond .eq 9, 3) := by decide +kernel
theorem dX9_seenAll_25 : decode cX9_seenAll 25 = .ok (.aload_n 0, 1) := by decide +kernel
theorem dX9_seenAll_26 : decode cX9_seenAll 26 = .ok (.iconst 2, 1) := by decide +kernel
theorem dX9_seenAll_27 : decode cX9_seenAll 27 = .ok (.invokevirtual 74, 3) := by decide +kernel
theorem dX9_seenAll_30 : decode cX9_seenAll 30 = .ok (.ireturn, 1) := by decide +kernel
theorem dX9_seenAll_31 : decode cX9_seenAll 31 = .ok (.aload_n 0, 1) := by decide +kernel
theorem dX9_seenAll_32 : decode cX9_seenAll 32 = .ok (.getfield 48, 3) := by decide +kernel
theorem dX9_seenAll_35 : decode cX9_seenAll 35 = .ok (.iload_n 1, 1) := by decide +kernel
theorem dX9_seenAll_36 : decode cX9_seenAll 36 = .ok (.aaload, 1) := by decide +kernel
theorem dX9_seenAll_37 : decode cX9_seenAll 37 = .ok (.getfield 253, 3) := by decide +kernel
theorem dX9_seenAll_40 : decode cX9_seenAll 40 = .ok (.astore_n 2, 1) := by decide +kernel
theorem dX9_seenAll_41 : decode cX9_seenAll 41 = .ok (.iconst 0, 1) := by decide +kernel
theorem dX9_seenAll_42 : decode cX9_seenAll 42 = .ok (.istore_n 3, 1) := by decide +kernel
theorem dX9_seenAll_43 : decode cX9_seenAll 43 = .ok (.iload_n 3, 1) := by decide +kernel
theorem dX9_seenAll_44 : decode cX9_seenAll 44 = .ok (.aload_n 2, 1) := by decide +kernel
theorem dX9_seenAll_45 : decode cX9_seenAll 45 = .ok (.invokevirtual 163, 3) := by decide +kernel
theorem dX9_seenAll_48 : decode cX9_seenAll 48 = .ok (.if_icmp .ge 58, 3) := by decide +kernel
theorem dX9_seenAll_51 : decode cX9_seenAll 51 = .ok (.aload_n 0, 1) := by decide +kernel
theorem dX9_seenAll_52 : decode cX9_seenAll 52 = .ok (.getfield 10, 3) := by decide +kernel
theorem dX9_seenAll_55 : decode cX9_seenAll 55 = .ok (.getfield 65, 3) := by decide +kernel
theorem dX9_seenAll_58 : decode cX9_seenAll 58 = .ok (.iload_n 3, 1) := by decide +kernel
theorem dX9_seenAll_59 : decode cX9_seenAll 59 = .ok (.invokevirtual 82, 3) := by decide +kernel
theorem dX9_seenAll_62 : decode cX9_seenAll 62 = .ok (.ifCond .eq 44, 3) := by decide +kernel
theorem dX9_seenAll_65 : decode cX9_seenAll 65 = .ok (.aload_n 0, 1) := by decide +kernel
theorem dX9_seenAll_66 : decode cX9_seenAll 66 = .ok (.getfield 10, 3) := by decide +kernel
theorem dX9_seenAll_69 : decode cX9_seenAll 69 = .ok (.getfield 65, 3) := by decide +kernel
theorem dX9_seenAll_72 : decode cX9_seenAll 72 = .ok (.aload_n 2, 1) := by decide +kernel
theorem dX9_seenAll_73 : decode cX9_seenAll 73 = .ok (.iload_n 3, 1) := by decide +kernel
theorem dX9_seenAll_74 : decode cX9_seenAll 74 = .ok (.invokevirtual 280, 3) := by decide +kernel
theorem dX9_seenAll_77 : decode cX9_seenAll 77 = .ok (.invokevirtual 225, 3) := by decide +kernel
theorem dX9_seenAll_80 : decode cX9_seenAll 80 = .ok (.ifCond .eq 26, 3) := by decide +kernel
theorem dX9_seenAll_83 : decode cX9_seenAll 83 = .ok (.aload_n 0, 1) := by decide +kernel
theorem dX9_seenAll_84 : decode cX9_seenAll 84 = .ok (.getfield 10, 3) := by decide +kernel
theorem dX9_seenAll_87 : decode cX9_seenAll 87 = .ok (.getfield 97, 3) := by decide +kernel
theorem dX9_seenAll_90 : decode cX9_seenAll 90 = .ok (.getfield 100, 3) := by decide +kernel
theorem dX9_seenAll_93 : decode cX9_seenAll 93 = .ok (.iload_n 3, 1) := by decide +kernel
theorem dX9_seenAll_94 : decode cX9_seenAll 94 = .ok (.aload_n 2, 1) := by decide +kernel
theorem dX9_seenAll_95 : decode cX9_seenAll 95 = .ok (.iload_n 3, 1) := by decide +kernel
theorem dX9_seenAll_96 : decode cX9_seenAll 96 = .ok (.invokevirtual 280, 3) := by decide +kernel
theorem dX9_seenAll_99 : decode cX9_seenAll 99 = .ok (.iastore, 1) := by decide +kernel
theorem dX9_seenAll_100 : decode cX9_seenAll 100 = .ok (.iinc 3 1, 3) := by decide +kernel
theorem dX9_seenAll_103 : decode cX9_seenAll 103 = .ok (.goto (-60), 3) := by decide +kernel
theorem dX9_seenAll_106 : decode cX9_seenAll 106 = .ok (.iload_n 3, 1) := by decide +kernel
theorem dX9_seenAll_107 : decode cX9_seenAll 107 = .ok (.ireturn, 1) := by decide +kernel
theorem dX9_judge_0 : decode cX9_judge 0 = .ok (.iload_n 1, 1) := by decide +kernel
theorem dX9_judge_1 : decode cX9_judge 1 = .ok (.invokestatic 247, 3) := by decide +kernel
theorem dX9_judge_4 : decode cX9_judge 4 = .ok (.ifCond .ne 9, 3) := by decide +kernel
theorem dX9_judge_7 : decode cX9_judge 7 = .ok (.aload_n 0, 1) := by decide +kernel
theorem dX9_judge_8 : decode cX9_judge 8 = .ok (.iconst 1, 1) := by decide +kernel
theorem dX9_judge_9 : decode cX9_judge 9 = .ok (.invokevirtual 74, 3) := by decide +kernel
theorem dX9_judge_12 : decode cX9_judge 12 = .ok (.ireturn, 1) := by decide +kernel
theorem dX9_judge_13 : decode cX9_judge 13 = .ok (.aload_n 0, 1) := by decide +kernel
theorem dX9_judge_14 : decode cX9_judge 14 = .ok (.getfield 48, 3) := by decide +kernel
theorem dX9_judge_17 : decode cX9_judge 17 = .ok (.iload_n 1, 1) := by decide +kernel
theorem dX9_judge_18 : decode cX9_judge 18 = .ok (.aaload, 1) := by decide +kernel
theorem dX9_judge_19 : decode cX9_judge 19 = .ok (.invokevirtual 250, 3) := by decide +kernel
theorem dX9_judge_22 : decode cX9_judge 22 = .ok (.ifCond .eq 9, 3) := by decide +kernel
theorem dX9_judge_25 : decode cX9_judge 25 = .ok (.aload_n 0, 1) := by decide +kernel
theorem dX9_judge_26 : decode cX9_judge 26 = .ok (.iconst 2, 1) := by decide +kernel
theorem dX9_judge_27 : decode cX9_judge 27 = .ok (.invokevirtual 74, 3) := by decide +kernel
theorem dX9_judge_30 : decode cX9_judge 30 = .ok (.ireturn, 1) := by decide +kernel
theorem dX9_judge_31 : decode cX9_judge 31 = .ok (.aload_n 0, 1) := by decide +kernel
theorem dX9_judge_32 : decode cX9_judge 32 = .ok (.getfield 48, 3) := by decide +kernel
theorem dX9_judge_35 : decode cX9_judge 35 = .ok (.iload_n 1, 1) := by decide +kernel
theorem dX9_judge_36 : decode cX9_judge 36 = .ok (.aaload, 1) := by decide +kernel
theorem dX9_judge_37 : decode cX9_judge 37 = .ok (.getfield 253, 3) := by decide +kernel
theorem dX9_judge_40 : decode cX9_judge 40 = .ok (.astore_n 2, 1) := by decide +kernel
theorem dX9_judge_41 : decode cX9_judge 41 = .ok (.iconst 0, 1) := by decide +kernel
theorem dX9_judge_42 : decode cX9_judge 42 = .ok (.istore_n 3, 1) := by decide +kernel
theorem dX9_judge_43 : decode cX9_judge 43 = .ok (.iload_n 3, 1) := by decide +kernel
theorem dX9_judge_44 : decode cX9_judge 44 = .ok (.aload_n 2, 1) := by decide +kernel
theorem dX9_judge_45 : decode cX9_judge 45 = .ok (.invokevirtual 163, 3) := by decide +kernel
theorem dX9_judge_48 : decode cX9_judge 48 = .ok (.if_icmp .ge 43, 3) := by decide +kernel
theorem dX9_judge_51 : decode cX9_judge 51 = .ok (.aload_n 0, 1) := by decide +kernel
theorem dX9_judge_52 : decode cX9_judge 52 = .ok (.getfield 10, 3) := by decide +kernel
theorem dX9_judge_55 : decode cX9_judge 55 = .ok (.getfield 65, 3) := by decide +kernel
theorem dX9_judge_58 : decode cX9_judge 58 = .ok (.iload_n 3, 1) := by decide +kernel
theorem dX9_judge_59 : decode cX9_judge 59 = .ok (.invokevirtual 82, 3) := by decide +kernel
theorem dX9_judge_62 : decode cX9_judge 62 = .ok (.ifCond .eq 29, 3) := by decide +kernel
theorem dX9_judge_65 : decode cX9_judge 65 = .ok (.aload_n 2, 1) := by decide +kernel
theorem dX9_judge_66 : decode cX9_judge 66 = .ok (.iload_n 3, 1) := by decide +kernel
theorem dX9_judge_67 : decode cX9_judge 67 = .ok (.invokevirtual 280, 3) := by decide +kernel
theorem dX9_judge_70 : decode cX9_judge 70 = .ok (.aload_n 0, 1) := by decide +kernel
theorem dX9_judge_71 : decode cX9_judge 71 = .ok (.getfield 10, 3) := by decide +kernel
theorem dX9_judge_74 : decode cX9_judge 74 = .ok (.getfield 65, 3) := by decide +kernel
theorem dX9_judge_77 : decode cX9_judge 77 = .ok (.getfield 91, 3) := by decide +kernel
theorem dX9_judge_80 : decode cX9_judge 80 = .ok (.iload_n 3, 1) := by decide +kernel
theorem dX9_judge_81 : decode cX9_judge 81 = .ok (.iaload, 1) := by decide +kernel
theorem dX9_judge_82 : decode cX9_judge 82 = .ok (.if_icmp .ne 9, 3) := by decide +kernel
theorem dX9_judge_85 : decode cX9_judge 85 = .ok (.iinc 3 1, 3) := by decide +kernel
theorem dX9_judge_88 : decode cX9_judge 88 = .ok (.goto (-45), 3) := by decide +kernel
theorem dX9_judge_91 : decode cX9_judge 91 = .ok (.iload_n 3, 1) := by decide +kernel
theorem dX9_judge_92 : decode cX9_judge 92 = .ok (.ireturn, 1) := by decide +kernel
theorem dX9_image_0 : decode cX9_image 0 = .ok (.aload_n 0, 1) := by decide +kernel
theorem dX9_image_1 : decode cX9_image 1 = .ok (.getfield 16, 3) := by decide +kernel
theorem dX9_image_4 : decode cX9_image 4 = .ok (.aload_n 0, 1) := by decide +kernel
theorem dX9_image_5 : decode cX9_image 5 = .ok (.getfield 10, 3) := by decide +kernel
theorem dX9_image_8 : decode cX9_image 8 = .ok (.invokevirtual 302, 3) := by decide +kernel
theorem dX9_image_11 : decode cX9_image 11 = .ok (.aload_n 0, 1) := by decide +kernel
theorem dX9_image_12 : decode cX9_image 12 = .ok (.dup, 1) := by decide +kernel
theorem dX9_image_13 : decode cX9_image 13 = .ok (.getfield 57, 3) := by decide +kernel
theorem dX9_image_16 : decode cX9_image 16 = .ok (.iconst 1, 1) := by decide +kernel
theorem dX9_image_17 : decode cX9_image 17 = .ok (.iadd, 1) := by decide +kernel
theorem dX9_image_18 : decode cX9_image 18 = .ok (.putfield 57, 3) := by decide +kernel
theorem dX9_image_21 : decode cX9_image 21 = .ok (.aload_n 0, 1) := by decide +kernel
theorem dX9_image_22 : decode cX9_image 22 = .ok (.getfield 57, 3) := by decide +kernel
theorem dX9_image_25 : decode cX9_image 25 = .ok (.ireturn, 1) := by decide +kernel
theorem dX9_restore_0 : decode cX9_restore 0 = .ok (.aload_n 0, 1) := by decide +kernel
theorem dX9_restore_1 : decode cX9_restore 1 = .ok (.getfield 57, 3) := by decide +kernel
theorem dX9_restore_4 : decode cX9_restore 4 = .ok (.ifCond .ne 9, 3) := by decide +kernel
theorem dX9_restore_7 : decode cX9_restore 7 = .ok (.aload_n 0, 1) := by decide +kernel
theorem dX9_restore_8 : decode cX9_restore 8 = .ok (.iconst 2, 1) := by decide +kernel
theorem dX9_restore_9 : decode cX9_restore 9 = .ok (.invokevirtual 74, 3) := by decide +kernel
theorem dX9_restore_12 : decode cX9_restore 12 = .ok (.ireturn, 1) := by decide +kernel
theorem dX9_restore_13 : decode cX9_restore 13 = .ok (.aload_n 0, 1) := by decide +kernel
theorem dX9_restore_14 : decode cX9_restore 14 = .ok (.getfield 10, 3) := by decide +kernel
theorem dX9_restore_17 : decode cX9_restore 17 = .ok (.aload_n 0, 1) := by decide +kernel
theorem dX9_restore_18 : decode cX9_restore 18 = .ok (.getfield 16, 3) := by decide +kernel
theorem dX9_restore_21 : decode cX9_restore 21 = .ok (.invokevirtual 302, 3) := by decide +kernel
theorem dX9_restore_24 : decode cX9_restore 24 = .ok (.aload_n 0, 1) := by decide +kernel
theorem dX9_restore_25 : decode cX9_restore 25 = .ok (.getfield 10, 3) := by decide +kernel
theorem dX9_restore_28 : decode cX9_restore 28 = .ok (.getfield 97, 3) := by decide +kernel
theorem dX9_restore_31 : decode cX9_restore 31 = .ok (.getfield 197, 3) := by decide +kernel
theorem dX9_restore_34 : decode cX9_restore 34 = .ok (.ireturn, 1) := by decide +kernel
theorem dX9_tell_0 : decode cX9_tell 0 = .ok (.aload_n 0, 1) := by decide +kernel
theorem dX9_tell_1 : decode cX9_tell 1 = .ok (.getfield 10, 3) := by decide +kernel
theorem dX9_tell_4 : decode cX9_tell 4 = .ok (.getfield 305, 3) := by decide +kernel
theorem dX9_tell_7 : decode cX9_tell 7 = .ok (.iconst 1, 1) := by decide +kernel
theorem dX9_tell_8 : decode cX9_tell 8 = .ok (.invokevirtual 155, 3) := by decide +kernel
theorem dX9_tell_11 : decode cX9_tell 11 = .ok (.ifCond .ne 9, 3) := by decide +kernel
theorem dX9_tell_14 : decode cX9_tell 14 = .ok (.aload_n 0, 1) := by decide +kernel
theorem dX9_tell_15 : decode cX9_tell 15 = .ok (.iconst 4, 1) := by decide +kernel
theorem dX9_tell_16 : decode cX9_tell 16 = .ok (.invokevirtual 74, 3) := by decide +kernel
theorem dX9_tell_19 : decode cX9_tell 19 = .ok (.ireturn, 1) := by decide +kernel
theorem dX9_tell_20 : decode cX9_tell 20 = .ok (.aload_n 0, 1) := by decide +kernel
theorem dX9_tell_21 : decode cX9_tell 21 = .ok (.getfield 10, 3) := by decide +kernel
theorem dX9_tell_24 : decode cX9_tell 24 = .ok (.getfield 305, 3) := by decide +kernel
theorem dX9_tell_27 : decode cX9_tell 27 = .ok (.iload_n 1, 1) := by decide +kernel
theorem dX9_tell_28 : decode cX9_tell 28 = .ok (.invokevirtual 160, 3) := by decide +kernel
theorem dX9_tell_31 : decode cX9_tell 31 = .ok (.aload_n 0, 1) := by decide +kernel
theorem dX9_tell_32 : decode cX9_tell 32 = .ok (.getfield 10, 3) := by decide +kernel
theorem dX9_tell_35 : decode cX9_tell 35 = .ok (.getfield 305, 3) := by decide +kernel
theorem dX9_tell_38 : decode cX9_tell 38 = .ok (.invokevirtual 163, 3) := by decide +kernel
theorem dX9_tell_41 : decode cX9_tell 41 = .ok (.ireturn, 1) := by decide +kernel
theorem dX9_check_0 : decode cX9_check 0 = .ok (.iconst 0, 1) := by decide +kernel
theorem dX9_check_1 : decode cX9_check 1 = .ok (.istore_n 1, 1) := by decide +kernel
theorem dX9_check_2 : decode cX9_check 2 = .ok (.iconst 0, 1) := by decide +kernel
theorem dX9_check_3 : decode cX9_check 3 = .ok (.istore_n 2, 1) := by decide +kernel
theorem dX9_check_4 : decode cX9_check 4 = .ok (.iload_n 2, 1) := by decide +kernel
theorem dX9_check_5 : decode cX9_check 5 = .ok (.aload_n 0, 1) := by decide +kernel
theorem dX9_check_6 : decode cX9_check 6 = .ok (.getfield 10, 3) := by decide +kernel
theorem dX9_check_9 : decode cX9_check 9 = .ok (.getfield 305, 3) := by decide +kernel
theorem dX9_check_12 : decode cX9_check 12 = .ok (.invokevirtual 163, 3) := by decide +kernel
theorem dX9_check_15 : decode cX9_check 15 = .ok (.if_icmp .ge 60, 3) := by decide +kernel
theorem dX9_check_18 : decode cX9_check 18 = .ok (.iload_n 1, 1) := by decide +kernel
theorem dX9_check_19 : decode cX9_check 19 = .ok (.ifCond .ne 56, 3) := by decide +kernel
theorem dX9_check_22 : decode cX9_check 22 = .ok (.aload_n 0, 1) := by decide +kernel
theorem dX9_check_23 : decode cX9_check 23 = .ok (.getfield 10, 3) := by decide +kernel
theorem dX9_check_26 : decode cX9_check 26 = .ok (.getfield 65, 3) := by decide +kernel
theorem dX9_check_29 : decode cX9_check 29 = .ok (.iload_n 2, 1) := by decide +kernel
theorem dX9_check_30 : decode cX9_check 30 = .ok (.invokevirtual 82, 3) := by decide +kernel
theorem dX9_check_33 : decode cX9_check 33 = .ok (.ifCond .eq 32, 3) := by decide +kernel
theorem dX9_check_36 : decode cX9_check 36 = .ok (.aload_n 0, 1) := by decide +kernel
theorem dX9_check_37 : decode cX9_check 37 = .ok (.getfield 10, 3) := by decide +kernel
theorem dX9_check_40 : decode cX9_check 40 = .ok (.getfield 305, 3) := by decide +kernel
theorem dX9_check_43 : decode cX9_check 43 = .ok (.iload_n 2, 1) := by decide +kernel
theorem dX9_check_44 : decode cX9_check 44 = .ok (.invokevirtual 280, 3) := by decide +kernel
theorem dX9_check_47 : decode cX9_check 47 = .ok (.aload_n 0, 1) := by decide +kernel
theorem dX9_check_48 : decode cX9_check 48 = .ok (.getfield 10, 3) := by decide +kernel
theorem dX9_check_51 : decode cX9_check 51 = .ok (.iload_n 2, 1) := by decide +kernel
theorem dX9_check_52 : decode cX9_check 52 = .ok (.aload_n 0, 1) := by decide +kernel
theorem dX9_check_53 : decode cX9_check 53 = .ok (.getfield 10, 3) := by decide +kernel
theorem dX9_check_56 : decode cX9_check 56 = .ok (.getfield 97, 3) := by decide +kernel
theorem dX9_check_59 : decode cX9_check 59 = .ok (.invokevirtual 103, 3) := by decide +kernel
theorem dX9_check_62 : decode cX9_check 62 = .ok (.if_icmp .eq 7, 3) := by decide +kernel
theorem dX9_check_65 : decode cX9_check 65 = .ok (.iconst 1, 1) := by decide +kernel
theorem dX9_check_66 : decode cX9_check 66 = .ok (.iload_n 2, 1) := by decide +kernel
theorem dX9_check_67 : decode cX9_check 67 = .ok (.iadd, 1) := by decide +kernel
theorem dX9_check_68 : decode cX9_check 68 = .ok (.istore_n 1, 1) := by decide +kernel
theorem dX9_check_69 : decode cX9_check 69 = .ok (.iinc 2 1, 3) := by decide +kernel
theorem dX9_check_72 : decode cX9_check 72 = .ok (.goto (-68), 3) := by decide +kernel
theorem dX9_check_75 : decode cX9_check 75 = .ok (.aload_n 0, 1) := by decide +kernel
theorem dX9_check_76 : decode cX9_check 76 = .ok (.getfield 10, 3) := by decide +kernel
theorem dX9_check_79 : decode cX9_check 79 = .ok (.getfield 305, 3) := by decide +kernel
theorem dX9_check_82 : decode cX9_check 82 = .ok (.invokevirtual 173, 3) := by decide +kernel
theorem dX9_check_85 : decode cX9_check 85 = .ok (.iload_n 1, 1) := by decide +kernel
theorem dX9_check_86 : decode cX9_check 86 = .ok (.ireturn, 1) := by decide +kernel
theorem dX9_count_0 : decode cX9_count 0 = .ok (.iload_n 1, 1) := by decide +kernel
theorem dX9_count_1 : decode cX9_count 1 = .ok (.tableswitch 147 0 8 #[51, 62, 73, 84, 95, 106, 117, 128, 139], 51) := by decide +kernel
theorem dX9_count_52 : decode cX9_count 52 = .ok (.aload_n 0, 1) := by decide +kernel
theorem dX9_count_53 : decode cX9_count 53 = .ok (.getfield 10, 3) := by decide +kernel
theorem dX9_count_56 : decode cX9_count 56 = .ok (.getfield 65, 3) := by decide +kernel
theorem dX9_count_59 : decode cX9_count 59 = .ok (.getfield 69, 3) := by decide +kernel
theorem dX9_count_62 : decode cX9_count 62 = .ok (.ireturn, 1) := by decide +kernel
theorem dX9_count_63 : decode cX9_count 63 = .ok (.aload_n 0, 1) := by decide +kernel
theorem dX9_count_64 : decode cX9_count 64 = .ok (.getfield 10, 3) := by decide +kernel
theorem dX9_count_67 : decode cX9_count 67 = .ok (.getfield 97, 3) := by decide +kernel
theorem dX9_count_70 : decode cX9_count 70 = .ok (.getfield 197, 3) := by decide +kernel
theorem dX9_count_73 : decode cX9_count 73 = .ok (.ireturn, 1) := by decide +kernel
theorem dX9_count_74 : decode cX9_count 74 = .ok (.aload_n 0, 1) := by decide +kernel
theorem dX9_count_75 : decode cX9_count 75 = .ok (.getfield 10, 3) := by decide +kernel
theorem dX9_count_78 : decode cX9_count 78 = .ok (.getfield 97, 3) := by decide +kernel
theorem dX9_count_81 : decode cX9_count 81 = .ok (.getfield 149, 3) := by decide +kernel
theorem dX9_count_84 : decode cX9_count 84 = .ok (.ireturn, 1) := by decide +kernel
theorem dX9_count_85 : decode cX9_count 85 = .ok (.aload_n 0, 1) := by decide +kernel
theorem dX9_count_86 : decode cX9_count 86 = .ok (.getfield 10, 3) := by decide +kernel
theorem dX9_count_89 : decode cX9_count 89 = .ok (.getfield 97, 3) := by decide +kernel
theorem dX9_count_92 : decode cX9_count 92 = .ok (.getfield 152, 3) := by decide +kernel
theorem dX9_count_95 : decode cX9_count 95 = .ok (.ireturn, 1) := by decide +kernel
theorem dX9_count_96 : decode cX9_count 96 = .ok (.aload_n 0, 1) := by decide +kernel
theorem dX9_count_97 : decode cX9_count 97 = .ok (.getfield 10, 3) := by decide +kernel
theorem dX9_count_100 : decode cX9_count 100 = .ok (.getfield 97, 3) := by decide +kernel
theorem dX9_count_103 : decode cX9_count 103 = .ok (.invokevirtual 204, 3) := by decide +kernel
theorem dX9_count_106 : decode cX9_count 106 = .ok (.ireturn, 1) := by decide +kernel
theorem dX9_count_107 : decode cX9_count 107 = .ok (.aload_n 0, 1) := by decide +kernel
theorem dX9_count_108 : decode cX9_count 108 = .ok (.getfield 10, 3) := by decide +kernel
theorem dX9_count_111 : decode cX9_count 111 = .ok (.getfield 28, 3) := by decide +kernel
theorem dX9_count_114 : decode cX9_count 114 = .ok (.invokevirtual 163, 3) := by decide +kernel
theorem dX9_count_117 : decode cX9_count 117 = .ok (.ireturn, 1) := by decide +kernel
theorem dX9_count_118 : decode cX9_count 118 = .ok (.aload_n 0, 1) := by decide +kernel
theorem dX9_count_119 : decode cX9_count 119 = .ok (.getfield 10, 3) := by decide +kernel
theorem dX9_count_122 : decode cX9_count 122 = .ok (.getfield 305, 3) := by decide +kernel
theorem dX9_count_125 : decode cX9_count 125 = .ok (.invokevirtual 163, 3) := by decide +kernel
theorem dX9_count_128 : decode cX9_count 128 = .ok (.ireturn, 1) := by decide +kernel
theorem dX9_count_129 : decode cX9_count 129 = .ok (.aload_n 0, 1) := by decide +kernel
theorem dX9_count_130 : decode cX9_count 130 = .ok (.getfield 42, 3) := by decide +kernel
theorem dX9_count_133 : decode cX9_count 133 = .ok (.getfield 274, 3) := by decide +kernel
theorem dX9_count_136 : decode cX9_count 136 = .ok (.invokevirtual 163, 3) := by decide +kernel
theorem dX9_count_139 : decode cX9_count 139 = .ok (.ireturn, 1) := by decide +kernel
theorem dX9_count_140 : decode cX9_count 140 = .ok (.aload_n 0, 1) := by decide +kernel
theorem dX9_count_141 : decode cX9_count 141 = .ok (.getfield 10, 3) := by decide +kernel
theorem dX9_count_144 : decode cX9_count 144 = .ok (.getfield 210, 3) := by decide +kernel
theorem dX9_count_147 : decode cX9_count 147 = .ok (.ireturn, 1) := by decide +kernel
theorem dX9_count_148 : decode cX9_count 148 = .ok (.aload_n 0, 1) := by decide +kernel
theorem dX9_count_149 : decode cX9_count 149 = .ok (.iconst 1, 1) := by decide +kernel
theorem dX9_count_150 : decode cX9_count 150 = .ok (.invokevirtual 74, 3) := by decide +kernel
theorem dX9_count_153 : decode cX9_count 153 = .ok (.ireturn, 1) := by decide +kernel
theorem dX9_told_0 : decode cX9_told 0 = .ok (.iload_n 1, 1) := by decide +kernel
theorem dX9_told_1 : decode cX9_told 1 = .ok (.iconst 1, 1) := by decide +kernel
theorem dX9_told_2 : decode cX9_told 2 = .ok (.if_icmp .lt 9, 3) := by decide +kernel
theorem dX9_told_5 : decode cX9_told 5 = .ok (.iload_n 1, 1) := by decide +kernel
theorem dX9_told_6 : decode cX9_told 6 = .ok (.bipush 6, 2) := by decide +kernel
theorem dX9_told_8 : decode cX9_told 8 = .ok (.if_icmp .le 9, 3) := by decide +kernel
theorem dX9_told_11 : decode cX9_told 11 = .ok (.aload_n 0, 1) := by decide +kernel
theorem dX9_told_12 : decode cX9_told 12 = .ok (.iconst 1, 1) := by decide +kernel
theorem dX9_told_13 : decode cX9_told 13 = .ok (.invokevirtual 74, 3) := by decide +kernel
theorem dX9_told_16 : decode cX9_told 16 = .ok (.ireturn, 1) := by decide +kernel
theorem dX9_told_17 : decode cX9_told 17 = .ok (.aload_n 0, 1) := by decide +kernel
theorem dX9_told_18 : decode cX9_told 18 = .ok (.getfield 53, 3) := by decide +kernel
theorem dX9_told_21 : decode cX9_told 21 = .ok (.iload_n 1, 1) := by decide +kernel
theorem dX9_told_22 : decode cX9_told 22 = .ok (.iaload, 1) := by decide +kernel
theorem dX9_told_23 : decode cX9_told 23 = .ok (.ireturn, 1) := by decide +kernel
theorem dX9_fail_0 : decode cX9_fail 0 = .ok (.aload_n 0, 1) := by decide +kernel
theorem dX9_fail_1 : decode cX9_fail 1 = .ok (.getfield 53, 3) := by decide +kernel
theorem dX9_fail_4 : decode cX9_fail 4 = .ok (.iload_n 1, 1) := by decide +kernel
theorem dX9_fail_5 : decode cX9_fail 5 = .ok (.dup2, 1) := by decide +kernel
theorem dX9_fail_6 : decode cX9_fail 6 = .ok (.iaload, 1) := by decide +kernel
theorem dX9_fail_7 : decode cX9_fail 7 = .ok (.iconst 1, 1) := by decide +kernel
theorem dX9_fail_8 : decode cX9_fail 8 = .ok (.iadd, 1) := by decide +kernel
theorem dX9_fail_9 : decode cX9_fail 9 = .ok (.iastore, 1) := by decide +kernel
theorem dX9_fail_10 : decode cX9_fail 10 = .ok (.ldc_w 308, 3) := by decide +kernel
theorem dX9_fail_13 : decode cX9_fail 13 = .ok (.iload_n 1, 1) := by decide +kernel
theorem dX9_fail_14 : decode cX9_fail 14 = .ok (.isub, 1) := by decide +kernel
theorem dX9_fail_15 : decode cX9_fail 15 = .ok (.ireturn, 1) := by decide +kernel
theorem dX9_isKm_0 : decode cX9_isKm 0 = .ok (.iload_n 0, 1) := by decide +kernel
theorem dX9_isKm_1 : decode cX9_isKm 1 = .ok (.ifCond .lt 13, 3) := by decide +kernel
theorem dX9_isKm_4 : decode cX9_isKm 4 = .ok (.iload_n 0, 1) := by decide +kernel
theorem dX9_isKm_5 : decode cX9_isKm 5 = .ok (.bipush 69, 2) := by decide +kernel
theorem dX9_isKm_7 : decode cX9_isKm 7 = .ok (.if_icmp .gt 7, 3) := by decide +kernel
theorem dX9_isKm_10 : decode cX9_isKm 10 = .ok (.iconst 1, 1) := by decide +kernel
theorem dX9_isKm_11 : decode cX9_isKm 11 = .ok (.goto 4, 3) := by decide +kernel
theorem dX9_isKm_14 : decode cX9_isKm 14 = .ok (.iconst 0, 1) := by decide +kernel
theorem dX9_isKm_15 : decode cX9_isKm 15 = .ok (.ireturn, 1) := by decide +kernel
theorem dX9_isNumber_0 : decode cX9_isNumber 0 = .ok (.iload_n 0, 1) := by decide +kernel
theorem dX9_isNumber_1 : decode cX9_isNumber 1 = .ok (.ifCond .lt 13, 3) := by decide +kernel
theorem dX9_isNumber_4 : decode cX9_isNumber 4 = .ok (.iload_n 0, 1) := by decide +kernel
theorem dX9_isNumber_5 : decode cX9_isNumber 5 = .ok (.bipush 8, 2) := by decide +kernel
theorem dX9_isNumber_7 : decode cX9_isNumber 7 = .ok (.if_icmp .ge 7, 3) := by decide +kernel
theorem dX9_isNumber_10 : decode cX9_isNumber 10 = .ok (.iconst 1, 1) := by decide +kernel
theorem dX9_isNumber_11 : decode cX9_isNumber 11 = .ok (.goto 4, 3) := by decide +kernel
theorem dX9_isNumber_14 : decode cX9_isNumber 14 = .ok (.iconst 0, 1) := by decide +kernel
theorem dX9_isNumber_15 : decode cX9_isNumber 15 = .ok (.ireturn, 1) := by decide +kernel
theorem dX9_isUse_0 : decode cX9_isUse 0 = .ok (.iload_n 0, 1) := by decide +kernel
theorem dX9_isUse_1 : decode cX9_isUse 1 = .ok (.ifCond .lt 12, 3) := by decide +kernel
theorem dX9_isUse_4 : decode cX9_isUse 4 = .ok (.iload_n 0, 1) := by decide +kernel
theorem dX9_isUse_5 : decode cX9_isUse 5 = .ok (.iconst 2, 1) := by decide +kernel
theorem dX9_isUse_6 : decode cX9_isUse 6 = .ok (.if_icmp .ge 7, 3) := by decide +kernel
theorem dX9_isUse_9 : decode cX9_isUse 9 = .ok (.iconst 1, 1) := by decide +kernel
theorem dX9_isUse_10 : decode cX9_isUse 10 = .ok (.goto 4, 3) := by decide +kernel
theorem dX9_isUse_13 : decode cX9_isUse 13 = .ok (.iconst 0, 1) := by decide +kernel
theorem dX9_isUse_14 : decode cX9_isUse 14 = .ok (.ireturn, 1) := by decide +kernel
theorem dX9_isSheet_0 : decode cX9_isSheet 0 = .ok (.iload_n 0, 1) := by decide +kernel
theorem dX9_isSheet_1 : decode cX9_isSheet 1 = .ok (.ifCond .lt 12, 3) := by decide +kernel
theorem dX9_isSheet_4 : decode cX9_isSheet 4 = .ok (.iload_n 0, 1) := by decide +kernel
theorem dX9_isSheet_5 : decode cX9_isSheet 5 = .ok (.iconst 4, 1) := by decide +kernel
theorem dX9_isSheet_6 : decode cX9_isSheet 6 = .ok (.if_icmp .ge 7, 3) := by decide +kernel
theorem dX9_isSheet_9 : decode cX9_isSheet 9 = .ok (.iconst 1, 1) := by decide +kernel
theorem dX9_isSheet_10 : decode cX9_isSheet 10 = .ok (.goto 4, 3) := by decide +kernel
theorem dX9_isSheet_13 : decode cX9_isSheet 13 = .ok (.iconst 0, 1) := by decide +kernel
theorem dX9_isSheet_14 : decode cX9_isSheet 14 = .ok (.ireturn, 1) := by decide +kernel
theorem dX9_isIn_0 : decode cX9_isIn 0 = .ok (.iload_n 0, 1) := by decide +kernel
theorem dX9_isIn_1 : decode cX9_isIn 1 = .ok (.iload_n 1, 1) := by decide +kernel
theorem dX9_isIn_2 : decode cX9_isIn 2 = .ok (.ishr, 1) := by decide +kernel
theorem dX9_isIn_3 : decode cX9_isIn 3 = .ok (.iconst 1, 1) := by decide +kernel
theorem dX9_isIn_4 : decode cX9_isIn 4 = .ok (.iand, 1) := by decide +kernel
theorem dX9_isIn_5 : decode cX9_isIn 5 = .ok (.ifCond .eq 7, 3) := by decide +kernel
theorem dX9_isIn_8 : decode cX9_isIn 8 = .ok (.iconst 1, 1) := by decide +kernel
theorem dX9_isIn_9 : decode cX9_isIn 9 = .ok (.goto 4, 3) := by decide +kernel
theorem dX9_isIn_12 : decode cX9_isIn 12 = .ok (.iconst 0, 1) := by decide +kernel
theorem dX9_isIn_13 : decode cX9_isIn 13 = .ok (.ireturn, 1) := by decide +kernel
theorem dX9_greatestDivisor_0 : decode cX9_greatestDivisor 0 = .ok (.iload_n 1, 1) := by decide +kernel
theorem dX9_greatestDivisor_1 : decode cX9_greatestDivisor 1 = .ok (.istore_n 2, 1) := by decide +kernel
theorem dX9_greatestDivisor_2 : decode cX9_greatestDivisor 2 = .ok (.iload_n 2, 1) := by decide +kernel
theorem dX9_greatestDivisor_3 : decode cX9_greatestDivisor 3 = .ok (.iconst 1, 1) := by decide +kernel
theorem dX9_greatestDivisor_4 : decode cX9_greatestDivisor 4 = .ok (.if_icmp .le 23, 3) := by decide +kernel
theorem dX9_greatestDivisor_7 : decode cX9_greatestDivisor 7 = .ok (.iload_n 0, 1) := by decide +kernel
theorem dX9_greatestDivisor_8 : decode cX9_greatestDivisor 8 = .ok (.iload_n 2, 1) := by decide +kernel
theorem dX9_greatestDivisor_9 : decode cX9_greatestDivisor 9 = .ok (.irem, 1) := by decide +kernel
theorem dX9_greatestDivisor_10 : decode cX9_greatestDivisor 10 = .ok (.ifCond .ne 11, 3) := by decide +kernel
theorem dX9_greatestDivisor_13 : decode cX9_greatestDivisor 13 = .ok (.iload_n 1, 1) := by decide +kernel
theorem dX9_greatestDivisor_14 : decode cX9_greatestDivisor 14 = .ok (.iload_n 2, 1) := by decide +kernel
theorem dX9_greatestDivisor_15 : decode cX9_greatestDivisor 15 = .ok (.irem, 1) := by decide +kernel
theorem dX9_greatestDivisor_16 : decode cX9_greatestDivisor 16 = .ok (.ifCond .ne 5, 3) := by decide +kernel
theorem dX9_greatestDivisor_19 : decode cX9_greatestDivisor 19 = .ok (.iload_n 2, 1) := by decide +kernel
theorem dX9_greatestDivisor_20 : decode cX9_greatestDivisor 20 = .ok (.ireturn, 1) := by decide +kernel
theorem dX9_greatestDivisor_21 : decode cX9_greatestDivisor 21 = .ok (.iinc 2 (-1), 3) := by decide +kernel
theorem dX9_greatestDivisor_24 : decode cX9_greatestDivisor 24 = .ok (.goto (-22), 3) := by decide +kernel
theorem dX9_greatestDivisor_27 : decode cX9_greatestDivisor 27 = .ok (.iconst 1, 1) := by decide +kernel
theorem dX9_greatestDivisor_28 : decode cX9_greatestDivisor 28 = .ok (.ireturn, 1) := by decide +kernel
theorem dX10_init_0 : decode cX10_init 0 = .ok (.aload_n 0, 1) := by decide +kernel
theorem dX10_init_1 : decode cX10_init 1 = .ok (.invokespecial 3, 3) := by decide +kernel
theorem dX10_init_4 : decode cX10_init 4 = .ok (.aload_n 0, 1) := by decide +kernel
theorem dX10_init_5 : decode cX10_init 5 = .ok (.sipush 385, 3) := by decide +kernel
theorem dX10_init_8 : decode cX10_init 8 = .ok (.newarray .int, 2) := by decide +kernel
theorem dX10_init_10 : decode cX10_init 10 = .ok (.putfield 9, 3) := by decide +kernel
theorem dX10_init_13 : decode cX10_init 13 = .ok (.aload_n 0, 1) := by decide +kernel
theorem dX10_init_14 : decode cX10_init 14 = .ok (.sipush 385, 3) := by decide +kernel
theorem dX10_init_17 : decode cX10_init 17 = .ok (.newarray .int, 2) := by decide +kernel
theorem dX10_init_19 : decode cX10_init 19 = .ok (.putfield 13, 3) := by decide +kernel
theorem dX10_init_22 : decode cX10_init 22 = .ok (.aload_n 0, 1) := by decide +kernel
theorem dX10_init_23 : decode cX10_init 23 = .ok (.sipush 385, 3) := by decide +kernel
theorem dX10_init_26 : decode cX10_init 26 = .ok (.newarray .int, 2) := by decide +kernel
theorem dX10_init_28 : decode cX10_init 28 = .ok (.putfield 16, 3) := by decide +kernel
theorem dX10_init_31 : decode cX10_init 31 = .ok (.aload_n 0, 1) := by decide +kernel
theorem dX10_init_32 : decode cX10_init 32 = .ok (.bipush 7, 2) := by decide +kernel
theorem dX10_init_34 : decode cX10_init 34 = .ok (.newarray .int, 2) := by decide +kernel
theorem dX10_init_36 : decode cX10_init 36 = .ok (.putfield 19, 3) := by decide +kernel
theorem dX10_init_39 : decode cX10_init 39 = .ok (.aload_n 0, 1) := by decide +kernel
theorem dX10_init_40 : decode cX10_init 40 = .ok (.iconst 4, 1) := by decide +kernel
theorem dX10_init_41 : decode cX10_init 41 = .ok (.newarray .int, 2) := by decide +kernel
theorem dX10_init_43 : decode cX10_init 43 = .ok (.putfield 22, 3) := by decide +kernel
theorem dX10_init_46 : decode cX10_init 46 = .ok (.aload_n 0, 1) := by decide +kernel
theorem dX10_init_47 : decode cX10_init 47 = .ok (.iconst 4, 1) := by decide +kernel
theorem dX10_init_48 : decode cX10_init 48 = .ok (.newarray .int, 2) := by decide +kernel
theorem dX10_init_50 : decode cX10_init 50 = .ok (.putfield 25, 3) := by decide +kernel
theorem dX10_init_53 : decode cX10_init 53 = .ok (.aload_n 0, 1) := by decide +kernel
theorem dX10_init_54 : decode cX10_init 54 = .ok (.bipush 96, 2) := by decide +kernel
theorem dX10_init_56 : decode cX10_init 56 = .ok (.newarray .int, 2) := by decide +kernel
theorem dX10_init_58 : decode cX10_init 58 = .ok (.putfield 28, 3) := by decide +kernel
theorem dX10_init_61 : decode cX10_init 61 = .ok (.aload_n 0, 1) := by decide +kernel
theorem dX10_init_62 : decode cX10_init 62 = .ok (.bipush 60, 2) := by decide +kernel
theorem dX10_init_64 : decode cX10_init 64 = .ok (.newarray .int, 2) := by decide +kernel
theorem dX10_init_66 : decode cX10_init 66 = .ok (.putfield 31, 3) := by decide +kernel
theorem dX10_init_69 : decode cX10_init 69 = .ok (.aload_n 0, 1) := by decide +kernel
theorem dX10_init_70 : decode cX10_init 70 = .ok (.bipush 60, 2) := by decide +kernel
theorem dX10_init_72 : decode cX10_init 72 = .ok (.newarray .int, 2) := by decide +kernel
theorem dX10_init_74 : decode cX10_init 74 = .ok (.putfield 34, 3) := by decide +kernel
theorem dX10_init_77 : decode cX10_init 77 = .ok (.aload_n 0, 1) := by decide +kernel
theorem dX10_init_78 : decode cX10_init 78 = .ok (.iconst 3, 1) := by decide +kernel
theorem dX10_init_79 : decode cX10_init 79 = .ok (.newarray .int, 2) := by decide +kernel
theorem dX10_init_81 : decode cX10_init 81 = .ok (.putfield 37, 3) := by decide +kernel
theorem dX10_init_84 : decode cX10_init 84 = .ok (.aload_n 0, 1) := by decide +kernel
theorem dX10_init_85 : decode cX10_init 85 = .ok (.bipush 60, 2) := by decide +kernel
theorem dX10_init_87 : decode cX10_init 87 = .ok (.newarray .int, 2) := by decide +kernel
theorem dX10_init_89 : decode cX10_init 89 = .ok (.putfield 40, 3) := by decide +kernel
theorem dX10_init_92 : decode cX10_init 92 = .ok (.aload_n 0, 1) := by decide +kernel
theorem dX10_init_93 : decode cX10_init 93 = .ok (.bipush 30, 2) := by decide +kernel
theorem dX10_init_95 : decode cX10_init 95 = .ok (.newarray .int, 2) := by decide +kernel
theorem dX10_init_97 : decode cX10_init 97 = .ok (.putfield 43, 3) := by decide +kernel
theorem dX10_init_100 : decode cX10_init 100 = .ok (.aload_n 0, 1) := by decide +kernel
theorem dX10_init_101 : decode cX10_init 101 = .ok (.getfield 9, 3) := by decide +kernel
theorem dX10_init_104 : decode cX10_init 104 = .ok (.iconst 1, 1) := by decide +kernel
theorem dX10_init_105 : decode cX10_init 105 = .ok (.iconst 1, 1) := by decide +kernel
theorem dX10_init_106 : decode cX10_init 106 = .ok (.iastore, 1) := by decide +kernel
theorem dX10_init_107 : decode cX10_init 107 = .ok (.aload_n 0, 1) := by decide +kernel
theorem dX10_init_108 : decode cX10_init 108 = .ok (.getfield 9, 3) := by decide +kernel
theorem dX10_init_111 : decode cX10_init 111 = .ok (.iconst 3, 1) := by decide +kernel
theorem dX10_init_112 : decode cX10_init 112 = .ok (.bipush 100, 2) := by decide +kernel
theorem dX10_init_114 : decode cX10_init 114 = .ok (.iastore, 1) := by decide +kernel
theorem dX10_init_115 : decode cX10_init 115 = .ok (.aload_n 0, 1) := by decide +kernel
theorem dX10_init_116 : decode cX10_init 116 = .ok (.getfield 9, 3) := by decide +kernel
theorem dX10_init_119 : decode cX10_init 119 = .ok (.iconst 4, 1) := by decide +kernel
theorem dX10_init_120 : decode cX10_init 120 = .ok (.iconst 5, 1) := by decide +kernel
theorem dX10_init_121 : decode cX10_init 121 = .ok (.iastore, 1) := by decide +kernel
theorem dX10_init_122 : decode cX10_init 122 = .ok (.iconst 0, 1) := by decide +kernel
theorem dX10_init_123 : decode cX10_init 123 = .ok (.istore_n 1, 1) := by decide +kernel
theorem dX10_init_124 : decode cX10_init 124 = .ok (.iload_n 1, 1) := by decide +kernel
theorem dX10_init_125 : decode cX10_init 125 = .ok (.bipush 6, 2) := by decide +kernel
theorem dX10_init_127 : decode cX10_init 127 = .ok (.if_icmp .ge 23, 3) := by decide +kernel
theorem dX10_init_130 : decode cX10_init 130 = .ok (.aload_n 0, 1) := by decide +kernel
theorem dX10_init_131 : decode cX10_init 131 = .ok (.getfield 9, 3) := by decide +kernel
theorem dX10_init_134 : decode cX10_init 134 = .ok (.bipush 7, 2) := by decide +kernel
theorem dX10_init_136 : decode cX10_init 136 = .ok (.iconst 2, 1) := by decide +kernel
theorem dX10_init_137 : decode cX10_init 137 = .ok (.iload_n 1, 1) := by decide +kernel
theorem dX10_init_138 : decode cX10_init 138 = .ok (.imul, 1) := by decide +kernel
theorem dX10_init_139 : decode cX10_init 139 = .ok (.iadd, 1) := by decide +kernel
theorem dX10_init_140 : decode cX10_init 140 = .ok (.iconst 1, 1) := by decide +kernel
theorem dX10_init_141 : decode cX10_init 141 = .ok (.iadd, 1) := by decide +kernel
theorem dX10_init_142 : decode cX10_init 142 = .ok (.iconst 1, 1) := by decide +kernel
theorem dX10_init_143 : decode cX10_init 143 = .ok (.iastore, 1) := by decide +kernel
theorem dX10_init_144 : decode cX10_init 144 = .ok (.iinc 1 1, 3) := by decide +kernel
theorem dX10_init_147 : decode cX10_init 147 = .ok (.goto (-23), 3) := by decide +kernel
theorem dX10_init_150 : decode cX10_init 150 = .ok (.return_, 1) := by decide +kernel
theorem dX10_error_0 : decode cX10_error 0 = .ok (.aload_n 0, 1) := by decide +kernel
theorem dX10_error_1 : decode cX10_error 1 = .ok (.getfield 19, 3) := by decide +kernel
theorem dX10_error_4 : decode cX10_error 4 = .ok (.ldc 46, 2) := by decide +kernel
theorem dX10_error_6 : decode cX10_error 6 = .ok (.iload_n 1, 1) := by decide +kernel
theorem dX10_error_7 : decode cX10_error 7 = .ok (.isub, 1) := by decide +kernel
theorem dX10_error_8 : decode cX10_error 8 = .ok (.dup2, 1) := by decide +kernel
theorem dX10_error_9 : decode cX10_error 9 = .ok (.iaload, 1) := by decide +kernel
theorem dX10_error_10 : decode cX10_error 10 = .ok (.iconst 1, 1) := by decide +kernel
theorem dX10_error_11 : decode cX10_error 11 = .ok (.iadd, 1) := by decide +kernel
theorem dX10_error_12 : decode cX10_error 12 = .ok (.iastore, 1) := by decide +kernel
theorem dX10_error_13 : decode cX10_error 13 = .ok (.iload_n 1, 1) := by decide +kernel
theorem dX10_error_14 : decode cX10_error 14 = .ok (.ireturn, 1) := by decide +kernel
theorem dX10_in_0 : decode cX10_in 0 = .ok (.iload_n 0, 1) := by decide +kernel
theorem dX10_in_1 : decode cX10_in 1 = .ok (.iload_n 1, 1) := by decide +kernel
theorem dX10_in_2 : decode cX10_in 2 = .ok (.if_icmp .lt 12, 3) := by decide +kernel
theorem dX10_in_5 : decode cX10_in 5 = .ok (.iload_n 0, 1) := by decide +kernel
theorem dX10_in_6 : decode cX10_in 6 = .ok (.iload_n 2, 1) := by decide +kernel
theorem dX10_in_7 : decode cX10_in 7 = .ok (.if_icmp .gt 7, 3) := by decide +kernel
theorem dX10_in_10 : decode cX10_in 10 = .ok (.iconst 1, 1) := by decide +kernel
theorem dX10_in_11 : decode cX10_in 11 = .ok (.goto 4, 3) := by decide +kernel
theorem dX10_in_14 : decode cX10_in 14 = .ok (.iconst 0, 1) := by decide +kernel
theorem dX10_in_15 : decode cX10_in 15 = .ok (.ireturn, 1) := by decide +kernel
theorem dX10_held_0 : decode cX10_held 0 = .ok (.iload_n 0, 1) := by decide +kernel
theorem dX10_held_1 : decode cX10_held 1 = .ok (.iload_n 1, 1) := by decide +kernel
theorem dX10_held_2 : decode cX10_held 2 = .ok (.if_icmp .ge 7, 3) := by decide +kernel
theorem dX10_held_5 : decode cX10_held 5 = .ok (.iload_n 1, 1) := by decide +kernel
theorem dX10_held_6 : decode cX10_held 6 = .ok (.goto 13, 3) := by decide +kernel
theorem dX10_held_9 : decode cX10_held 9 = .ok (.iload_n 0, 1) := by decide +kernel
theorem dX10_held_10 : decode cX10_held 10 = .ok (.iload_n 2, 1) := by decide +kernel
theorem dX10_held_11 : decode cX10_held 11 = .ok (.if_icmp .le 7, 3) := by decide +kernel
theorem dX10_held_14 : decode cX10_held 14 = .ok (.iload_n 2, 1) := by decide +kernel
theorem dX10_held_15 : decode cX10_held 15 = .ok (.goto 4, 3) := by decide +kernel
theorem dX10_held_18 : decode cX10_held 18 = .ok (.iload_n 0, 1) := by decide +kernel
theorem dX10_held_19 : decode cX10_held 19 = .ok (.ireturn, 1) := by decide +kernel
theorem dX10_copyAll_0 : decode cX10_copyAll 0 = .ok (.iconst 0, 1) := by decide +kernel
theorem dX10_copyAll_1 : decode cX10_copyAll 1 = .ok (.istore_n 2, 1) := by decide +kernel
theorem dX10_copyAll_2 : decode cX10_copyAll 2 = .ok (.iload_n 2, 1) := by decide +kernel
theorem dX10_copyAll_3 : decode cX10_copyAll 3 = .ok (.sipush 385, 3) := by decide +kernel
theorem dX10_copyAll_6 : decode cX10_copyAll 6 = .ok (.if_icmp .ge 15, 3) := by decide +kernel
theorem dX10_copyAll_9 : decode cX10_copyAll 9 = .ok (.aload_n 1, 1) := by decide +kernel
theorem dX10_copyAll_10 : decode cX10_copyAll 10 = .ok (.iload_n 2, 1) := by decide +kernel
theorem dX10_copyAll_11 : decode cX10_copyAll 11 = .ok (.aload_n 0, 1) := by decide +kernel
theorem dX10_copyAll_12 : decode cX10_copyAll 12 = .ok (.iload_n 2, 1) := by decide +kernel
theorem dX10_copyAll_13 : decode cX10_copyAll 13 = .ok (.iaload, 1) := by decide +kernel
theorem dX10_copyAll_14 : decode cX10_copyAll 14 = .ok (.iastore, 1) := by decide +kernel
theorem dX10_copyAll_15 : decode cX10_copyAll 15 = .ok (.iinc 2 1, 3) := by decide +kernel
theorem dX10_copyAll_18 : decode cX10_copyAll 18 = .ok (.goto (-16), 3) := by decide +kernel
theorem dX10_copyAll_21 : decode cX10_copyAll 21 = .ok (.return_, 1) := by decide +kernel
theorem dX10_thinks_0 : decode cX10_thinks 0 = .ok (.aload_n 0, 1) := by decide +kernel
theorem dX10_thinks_1 : decode cX10_thinks 1 = .ok (.getfield 9, 3) := by decide +kernel
theorem dX10_thinks_4 : decode cX10_thinks 4 = .ok (.aload_n 0, 1) := by decide +kernel
theorem dX10_thinks_5 : decode cX10_thinks 5 = .ok (.getfield 16, 3) := by decide +kernel
theorem dX10_thinks_8 : decode cX10_thinks 8 = .ok (.invokestatic 47, 3) := by decide +kernel
theorem dX10_thinks_11 : decode cX10_thinks 11 = .ok (.return_, 1) := by decide +kernel
theorem dX10_putsBack_0 : decode cX10_putsBack 0 = .ok (.aload_n 0, 1) := by decide +kernel
theorem dX10_putsBack_1 : decode cX10_putsBack 1 = .ok (.getfield 16, 3) := by decide +kernel
theorem dX10_putsBack_4 : decode cX10_putsBack 4 = .ok (.aload_n 0, 1) := by decide +kernel
theorem dX10_putsBack_5 : decode cX10_putsBack 5 = .ok (.getfield 9, 3) := by decide +kernel
theorem dX10_putsBack_8 : decode cX10_putsBack 8 = .ok (.invokestatic 47, 3) := by decide +kernel
theorem dX10_putsBack_11 : decode cX10_putsBack 11 = .ok (.return_, 1) := by decide +kernel
theorem dX10_bits_0 : decode cX10_bits 0 = .ok (.iconst 0, 1) := by decide +kernel
theorem dX10_bits_1 : decode cX10_bits 1 = .ok (.istore_n 1, 1) := by decide +kernel
theorem dX10_bits_2 : decode cX10_bits 2 = .ok (.iload_n 0, 1) := by decide +kernel
theorem dX10_bits_3 : decode cX10_bits 3 = .ok (.istore_n 2, 1) := by decide +kernel
theorem dX10_bits_4 : decode cX10_bits 4 = .ok (.iload_n 2, 1) := by decide +kernel
theorem dX10_bits_5 : decode cX10_bits 5 = .ok (.ifCond .eq 15, 3) := by decide +kernel
theorem dX10_bits_8 : decode cX10_bits 8 = .ok (.iinc 1 1, 3) := by decide +kernel
theorem dX10_bits_11 : decode cX10_bits 11 = .ok (.iload_n 2, 1) := by decide +kernel
theorem dX10_bits_12 : decode cX10_bits 12 = .ok (.iload_n 2, 1) := by decide +kernel
theorem dX10_bits_13 : decode cX10_bits 13 = .ok (.iconst 1, 1) := by decide +kernel
theorem dX10_bits_14 : decode cX10_bits 14 = .ok (.isub, 1) := by decide +kernel
theorem dX10_bits_15 : decode cX10_bits 15 = .ok (.iand, 1) := by decide +kernel
theorem dX10_bits_16 : decode cX10_bits 16 = .ok (.istore_n 2, 1) := by decide +kernel
theorem dX10_bits_17 : decode cX10_bits 17 = .ok (.goto (-13), 3) := by decide +kernel
theorem dX10_bits_20 : decode cX10_bits 20 = .ok (.iload_n 1, 1) := by decide +kernel
theorem dX10_bits_21 : decode cX10_bits 21 = .ok (.ireturn, 1) := by decide +kernel
theorem dX10_isPerson_0 : decode cX10_isPerson 0 = .ok (.iload_n 1, 1) := by decide +kernel
theorem dX10_isPerson_1 : decode cX10_isPerson 1 = .ok (.iconst 0, 1) := by decide +kernel
theorem dX10_isPerson_2 : decode cX10_isPerson 2 = .ok (.aload_n 0, 1) := by decide +kernel
theorem dX10_isPerson_3 : decode cX10_isPerson 3 = .ok (.getfield 9, 3) := by decide +kernel
theorem dX10_isPerson_6 : decode cX10_isPerson 6 = .ok (.iconst 2, 1) := by decide +kernel
theorem dX10_isPerson_7 : decode cX10_isPerson 7 = .ok (.iaload, 1) := by decide +kernel
theorem dX10_isPerson_8 : decode cX10_isPerson 8 = .ok (.iconst 1, 1) := by decide +kernel
theorem dX10_isPerson_9 : decode cX10_isPerson 9 = .ok (.isub, 1) := by decide +kernel
theorem dX10_isPerson_10 : decode cX10_isPerson 10 = .ok (.invokestatic 51, 3) := by decide +kernel
theorem dX10_isPerson_13 : decode cX10_isPerson 13 = .ok (.ireturn, 1) := by decide +kernel
theorem dX10_becomes_0 : decode cX10_becomes 0 = .ok (.aload_n 0, 1) := by decide +kernel
theorem dX10_becomes_1 : decode cX10_becomes 1 = .ok (.getfield 9, 3) := by decide +kernel
theorem dX10_becomes_4 : decode cX10_becomes 4 = .ok (.iload_n 1, 1) := by decide +kernel
theorem dX10_becomes_5 : decode cX10_becomes 5 = .ok (.iaload, 1) := by decide +kernel
theorem dX10_becomes_6 : decode cX10_becomes 6 = .ok (.istore_n 3, 1) := by decide +kernel
theorem dX10_becomes_7 : decode cX10_becomes 7 = .ok (.aload_n 0, 1) := by decide +kernel
theorem dX10_becomes_8 : decode cX10_becomes 8 = .ok (.getfield 9, 3) := by decide +kernel
theorem dX10_becomes_11 : decode cX10_becomes 11 = .ok (.iload_n 1, 1) := by decide +kernel
theorem dX10_becomes_12 : decode cX10_becomes 12 = .ok (.iload_n 2, 1) := by decide +kernel
theorem dX10_becomes_13 : decode cX10_becomes 13 = .ok (.iastore, 1) := by decide +kernel
theorem dX10_becomes_14 : decode cX10_becomes 14 = .ok (.iload_n 3, 1) := by decide +kernel
theorem dX10_becomes_15 : decode cX10_becomes 15 = .ok (.ireturn, 1) := by decide +kernel
theorem dX10_of_0 : decode cX10_of 0 = .ok (.aload_n 0, 1) := by decide +kernel
theorem dX10_of_1 : decode cX10_of 1 = .ok (.getfield 9, 3) := by decide +kernel
theorem dX10_of_4 : decode cX10_of 4 = .ok (.bipush 19, 2) := by decide +kernel
theorem dX10_of_6 : decode cX10_of 6 = .ok (.iconst 5, 1) := by decide +kernel
theorem dX10_of_7 : decode cX10_of 7 = .ok (.iload_n 1, 1) := by decide +kernel
theorem dX10_of_8 : decode cX10_of 8 = .ok (.imul, 1) := by decide +kernel
theorem dX10_of_9 : decode cX10_of 9 = .ok (.iadd, 1) := by decide +kernel
theorem dX10_of_10 : decode cX10_of 10 = .ok (.iload_n 2, 1) := by decide +kernel
theorem dX10_of_11 : decode cX10_of 11 = .ok (.iadd, 1) := by decide +kernel
theorem dX10_of_12 : decode cX10_of 12 = .ok (.iaload, 1) := by decide +kernel
theorem dX10_of_13 : decode cX10_of 13 = .ok (.ireturn, 1) := by decide +kernel
theorem dX10_puts_0 : decode cX10_puts 0 = .ok (.aload_n 0, 1) := by decide +kernel
theorem dX10_puts_1 : decode cX10_puts 1 = .ok (.getfield 9, 3) := by decide +kernel
theorem dX10_puts_4 : decode cX10_puts 4 = .ok (.bipush 19, 2) := by decide +kernel
theorem dX10_puts_6 : decode cX10_puts 6 = .ok (.iconst 5, 1) := by decide +kernel
theorem dX10_puts_7 : decode cX10_puts 7 = .ok (.iload_n 1, 1) := by decide +kernel
theorem dX10_puts_8 : decode cX10_puts 8 = .ok (.imul, 1) := by decide +kernel
theorem dX10_puts_9 : decode cX10_puts 9 = .ok (.iadd, 1) := by decide +kernel
theorem dX10_puts_10 : decode cX10_puts 10 = .ok (.iload_n 2, 1) := by decide +kernel
theorem dX10_puts_11 : decode cX10_puts 11 = .ok (.iadd, 1) := by decide +kernel
theorem dX10_puts_12 : decode cX10_puts 12 = .ok (.iload_n 3, 1) := by decide +kernel
theorem dX10_puts_13 : decode cX10_puts 13 = .ok (.iastore, 1) := by decide +kernel
theorem dX10_puts_14 : decode cX10_puts 14 = .ok (.return_, 1) := by decide +kernel
theorem dX10_isKin_0 : decode cX10_isKin 0 = .ok (.aload_n 0, 1) := by decide +kernel
theorem dX10_isKin_1 : decode cX10_isKin 1 = .ok (.iload_n 1, 1) := by decide +kernel
theorem dX10_isKin_2 : decode cX10_isKin 2 = .ok (.iconst 2, 1) := by decide +kernel
theorem dX10_isKin_3 : decode cX10_isKin 3 = .ok (.invokevirtual 55, 3) := by decide +kernel
theorem dX10_isKin_6 : decode cX10_isKin 6 = .ok (.iload_n 2, 1) := by decide +kernel
theorem dX10_isKin_7 : decode cX10_isKin 7 = .ok (.if_icmp .eq 23, 3) := by decide +kernel
theorem dX10_isKin_10 : decode cX10_isKin 10 = .ok (.aload_n 0, 1) := by decide +kernel
theorem dX10_isKin_11 : decode cX10_isKin 11 = .ok (.iload_n 2, 1) := by decide +kernel
theorem dX10_isKin_12 : decode cX10_isKin 12 = .ok (.iconst 2, 1) := by decide +kernel
theorem dX10_isKin_13 : decode cX10_isKin 13 = .ok (.invokevirtual 55, 3) := by decide +kernel
theorem dX10_isKin_16 : decode cX10_isKin 16 = .ok (.iload_n 1, 1) := by decide +kernel
theorem dX10_isKin_17 : decode cX10_isKin 17 = .ok (.if_icmp .eq 13, 3) := by decide +kernel
theorem dX10_isKin_20 : decode cX10_isKin 20 = .ok (.aload_n 0, 1) := by decide +kernel
theorem dX10_isKin_21 : decode cX10_isKin 21 = .ok (.iload_n 1, 1) := by decide +kernel
theorem dX10_isKin_22 : decode cX10_isKin 22 = .ok (.iconst 3, 1) := by decide +kernel
theorem dX10_isKin_23 : decode cX10_isKin 23 = .ok (.invokevirtual 55, 3) := by decide +kernel
theorem dX10_isKin_26 : decode cX10_isKin 26 = .ok (.iload_n 2, 1) := by decide +kernel
theorem dX10_isKin_27 : decode cX10_isKin 27 = .ok (.if_icmp .ne 7, 3) := by decide +kernel
theorem dX10_isKin_30 : decode cX10_isKin 30 = .ok (.iconst 1, 1) := by decide +kernel
theorem dX10_isKin_31 : decode cX10_isKin 31 = .ok (.goto 4, 3) := by decide +kernel
theorem dX10_isKin_34 : decode cX10_isKin 34 = .ok (.iconst 0, 1) := by decide +kernel
theorem dX10_isKin_35 : decode cX10_isKin 35 = .ok (.ireturn, 1) := by decide +kernel
theorem dX10_besides_0 : decode cX10_besides 0 = .ok (.iconst 0, 1) := by decide +kernel
theorem dX10_besides_1 : decode cX10_besides 1 = .ok (.istore_n 2, 1) := by decide +kernel
theorem dX10_besides_2 : decode cX10_besides 2 = .ok (.iconst 0, 1) := by decide +kernel
theorem dX10_besides_3 : decode cX10_besides 3 = .ok (.istore_n 3, 1) := by decide +kernel
theorem dX10_besides_4 : decode cX10_besides 4 = .ok (.iload_n 3, 1) := by decide +kernel
theorem dX10_besides_5 : decode cX10_besides 5 = .ok (.aload_n 0, 1) := by decide +kernel
theorem dX10_besides_6 : decode cX10_besides 6 = .ok (.getfield 9, 3) := by decide +kernel
theorem dX10_besides_9 : decode cX10_besides 9 = .ok (.iconst 2, 1) := by decide +kernel
theorem dX10_besides_10 : decode cX10_besides 10 = .ok (.iaload, 1) := by decide +kernel
theorem dX10_besides_11 : decode cX10_besides 11 = .ok (.if_icmp .ge 65, 3) := by decide +kernel
theorem dX10_besides_14 : decode cX10_besides 14 = .ok (.iconst 0, 1) := by decide +kernel
theorem dX10_besides_15 : decode cX10_besides 15 = .ok (.istore 4, 2) := by decide +kernel
theorem dX10_besides_17 : decode cX10_besides 17 = .ok (.iload 4, 2) := by decide +kernel
theorem dX10_besides_19 : decode cX10_besides 19 = .ok (.aload_n 0, 1) := by decide +kernel
theorem dX10_besides_20 : decode cX10_besides 20 = .ok (.getfield 9, 3) := by decide +kernel
theorem dX10_besides_23 : decode cX10_besides 23 = .ok (.iconst 2, 1) := by decide +kernel
theorem dX10_besides_24 : decode cX10_besides 24 = .ok (.iaload, 1) := by decide +kernel
theorem dX10_besides_25 : decode cX10_besides 25 = .ok (.if_icmp .ge 45, 3) := by decide +kernel
theorem dX10_besides_28 : decode cX10_besides 28 = .ok (.iload_n 2, 1) := by decide +kernel
theorem dX10_besides_29 : decode cX10_besides 29 = .ok (.iload_n 1, 1) := by decide +kernel
theorem dX10_besides_30 : decode cX10_besides 30 = .ok (.iload_n 3, 1) := by decide +kernel
theorem dX10_besides_31 : decode cX10_besides 31 = .ok (.ishr, 1) := by decide +kernel
theorem dX10_besides_32 : decode cX10_besides 32 = .ok (.iconst 1, 1) := by decide +kernel
theorem dX10_besides_33 : decode cX10_besides 33 = .ok (.iand, 1) := by decide +kernel
theorem dX10_besides_34 : decode cX10_besides 34 = .ok (.iconst 1, 1) := by decide +kernel
theorem dX10_besides_35 : decode cX10_besides 35 = .ok (.if_icmp .ne 26, 3) := by decide +kernel
theorem dX10_besides_38 : decode cX10_besides 38 = .ok (.iload_n 3, 1) := by decide +kernel
theorem dX10_besides_39 : decode cX10_besides 39 = .ok (.iload 4, 2) := by decide +kernel
theorem dX10_besides_41 : decode cX10_besides 41 = .ok (.if_icmp .eq 20, 3) := by decide +kernel
theorem dX10_besides_44 : decode cX10_besides 44 = .ok (.aload_n 0, 1) := by decide +kernel
theorem dX10_besides_45 : decode cX10_besides 45 = .ok (.iload_n 3, 1) := by decide +kernel
theorem dX10_besides_46 : decode cX10_besides 46 = .ok (.iload 4, 2) := by decide +kernel
theorem dX10_besides_48 : decode cX10_besides 48 = .ok (.invokevirtual 59, 3) := by decide +kernel
theorem dX10_besides_51 : decode cX10_besides 51 = .ok (.ifCond .eq 10, 3) := by decide +kernel
theorem dX10_besides_54 : decode cX10_besides 54 = .ok (.iconst 1, 1) := by decide +kernel
theorem dX10_besides_55 : decode cX10_besides 55 = .ok (.iload 4, 2) := by decide +kernel
theorem dX10_besides_57 : decode cX10_besides 57 = .ok (.ishl, 1) := by decide +kernel
theorem dX10_besides_58 : decode cX10_besides 58 = .ok (.goto 4, 3) := by decide +kernel
theorem dX10_besides_61 : decode cX10_besides 61 = .ok (.iconst 0, 1) := by decide +kernel
theorem dX10_besides_62 : decode cX10_besides 62 = .ok (.ior, 1) := by decide +kernel
theorem dX10_besides_63 : decode cX10_besides 63 = .ok (.istore_n 2, 1) := by decide +kernel
theorem dX10_besides_64 : decode cX10_besides 64 = .ok (.iinc 4 1, 3) := by decide +kernel
theorem dX10_besides_67 : decode cX10_besides 67 = .ok (.goto (-50), 3) := by decide +kernel
theorem dX10_besides_70 : decode cX10_besides 70 = .ok (.iinc 3 1, 3) := by decide +kernel
theorem dX10_besides_73 : decode cX10_besides 73 = .ok (.goto (-69), 3) := by decide +kernel
theorem dX10_besides_76 : decode cX10_besides 76 = .ok (.iload_n 2, 1) := by decide +kernel
theorem dX10_besides_77 : decode cX10_besides 77 = .ok (.ireturn, 1) := by decide +kernel
theorem dX10_stepsBy_0 : decode cX10_stepsBy 0 = .ok (.iconst 1, 1) := by decide +kernel
theorem dX10_stepsBy_1 : decode cX10_stepsBy 1 = .ok (.iload_n 1, 1) := by decide +kernel
theorem dX10_stepsBy_2 : decode cX10_stepsBy 2 = .ok (.ishl, 1) := by decide +kernel
theorem dX10_stepsBy_3 : decode cX10_stepsBy 3 = .ok (.istore_n 3, 1) := by decide +kernel
theorem dX10_stepsBy_4 : decode cX10_stepsBy 4 = .ok (.iconst 0, 1) := by decide +kernel
theorem dX10_stepsBy_5 : decode cX10_stepsBy 5 = .ok (.istore 4, 2) := by decide +kernel
theorem dX10_stepsBy_7 : decode cX10_stepsBy 7 = .ok (.iload_n 3, 1) := by decide +kernel
theorem dX10_stepsBy_8 : decode cX10_stepsBy 8 = .ok (.iload_n 2, 1) := by decide +kernel
theorem dX10_stepsBy_9 : decode cX10_stepsBy 9 = .ok (.ishr, 1) := by decide +kernel
theorem dX10_stepsBy_10 : decode cX10_stepsBy 10 = .ok (.iconst 1, 1) := by decide +kernel
theorem dX10_stepsBy_11 : decode cX10_stepsBy 11 = .ok (.iand, 1) := by decide +kernel
theorem dX10_stepsBy_12 : decode cX10_stepsBy 12 = .ok (.ifCond .ne 30, 3) := by decide +kernel
theorem dX10_stepsBy_15 : decode cX10_stepsBy 15 = .ok (.iload_n 3, 1) := by decide +kernel
theorem dX10_stepsBy_16 : decode cX10_stepsBy 16 = .ok (.aload_n 0, 1) := by decide +kernel
theorem dX10_stepsBy_17 : decode cX10_stepsBy 17 = .ok (.iload_n 3, 1) := by decide +kernel
theorem dX10_stepsBy_18 : decode cX10_stepsBy 18 = .ok (.invokevirtual 63, 3) := by decide +kernel
theorem dX10_stepsBy_21 : decode cX10_stepsBy 21 = .ok (.ior, 1) := by decide +kernel
theorem dX10_stepsBy_22 : decode cX10_stepsBy 22 = .ok (.istore 5, 2) := by decide +kernel
theorem dX10_stepsBy_24 : decode cX10_stepsBy 24 = .ok (.iload 5, 2) := by decide +kernel
theorem dX10_stepsBy_26 : decode cX10_stepsBy 26 = .ok (.iload_n 3, 1) := by decide +kernel
theorem dX10_stepsBy_27 : decode cX10_stepsBy 27 = .ok (.if_icmp .ne 6, 3) := by decide +kernel
theorem dX10_stepsBy_30 : decode cX10_stepsBy 30 = .ok (.bipush 40, 2) := by decide +kernel
theorem dX10_stepsBy_32 : decode cX10_stepsBy 32 = .ok (.ireturn, 1) := by decide +kernel
theorem dX10_stepsBy_33 : decode cX10_stepsBy 33 = .ok (.iload 5, 2) := by decide +kernel
theorem dX10_stepsBy_35 : decode cX10_stepsBy 35 = .ok (.istore_n 3, 1) := by decide +kernel
theorem dX10_stepsBy_36 : decode cX10_stepsBy 36 = .ok (.iinc 4 1, 3) := by decide +kernel
theorem dX10_stepsBy_39 : decode cX10_stepsBy 39 = .ok (.goto (-32), 3) := by decide +kernel
theorem dX10_stepsBy_42 : decode cX10_stepsBy 42 = .ok (.iload 4, 2) := by decide +kernel
theorem dX10_stepsBy_44 : decode cX10_stepsBy 44 = .ok (.ireturn, 1) := by decide +kernel
theorem dX10_relatives_0 : decode cX10_relatives 0 = .ok (.aload_n 0, 1) := by decide +kernel
theorem dX10_relatives_1 : decode cX10_relatives 1 = .ok (.iconst 1, 1) := by decide +kernel
theorem dX10_relatives_2 : decode cX10_relatives 2 = .ok (.iload_n 1, 1) := by decide +kernel
theorem dX10_relatives_3 : decode cX10_relatives 3 = .ok (.ishl, 1) := by decide +kernel
theorem dX10_relatives_4 : decode cX10_relatives 4 = .ok (.invokevirtual 63, 3) := by decide +kernel
theorem dX10_relatives_7 : decode cX10_relatives 7 = .ok (.iconst 1, 1) := by decide +kernel
theorem dX10_relatives_8 : decode cX10_relatives 8 = .ok (.iload_n 1, 1) := by decide +kernel
theorem dX10_relatives_9 : decode cX10_relatives 9 = .ok (.ishl, 1) := by decide +kernel
theorem dX10_relatives_10 : decode cX10_relatives 10 = .ok (.iconst (-1), 1) := by decide +kernel
theorem dX10_relatives_11 : decode cX10_relatives 11 = .ok (.ixor, 1) := by decide +kernel
theorem dX10_relatives_12 : decode cX10_relatives 12 = .ok (.iand, 1) := by decide +kernel
theorem dX10_relatives_13 : decode cX10_relatives 13 = .ok (.invokestatic 67, 3) := by decide +kernel
theorem dX10_relatives_16 : decode cX10_relatives 16 = .ok (.ireturn, 1) := by decide +kernel
theorem dX10_letsBy_0 : decode cX10_letsBy 0 = .ok (.iload_n 2, 1) := by decide +kernel
theorem dX10_letsBy_1 : decode cX10_letsBy 1 = .ok (.iconst 2, 1) := by decide +kernel
theorem dX10_letsBy_2 : decode cX10_letsBy 2 = .ok (.irem, 1) := by decide +kernel
theorem dX10_letsBy_3 : decode cX10_letsBy 3 = .ok (.ifCond .ne 7, 3) := by decide +kernel
theorem dX10_letsBy_6 : decode cX10_letsBy 6 = .ok (.iload_n 2, 1) := by decide +kernel
theorem dX10_letsBy_7 : decode cX10_letsBy 7 = .ok (.goto 6, 3) := by decide +kernel
theorem dX10_letsBy_10 : decode cX10_letsBy 10 = .ok (.iload_n 2, 1) := by decide +kernel
theorem dX10_letsBy_11 : decode cX10_letsBy 11 = .ok (.iconst 3, 1) := by decide +kernel
theorem dX10_letsBy_12 : decode cX10_letsBy 12 = .ok (.idiv, 1) := by decide +kernel
theorem dX10_letsBy_13 : decode cX10_letsBy 13 = .ok (.istore_n 3, 1) := by decide +kernel
theorem dX10_letsBy_14 : decode cX10_letsBy 14 = .ok (.aload_n 0, 1) := by decide +kernel
theorem dX10_letsBy_15 : decode cX10_letsBy 15 = .ok (.iload_n 1, 1) := by decide +kernel
theorem dX10_letsBy_16 : decode cX10_letsBy 16 = .ok (.iconst 0, 1) := by decide +kernel
theorem dX10_letsBy_17 : decode cX10_letsBy 17 = .ok (.invokevirtual 55, 3) := by decide +kernel
theorem dX10_letsBy_20 : decode cX10_letsBy 20 = .ok (.tableswitch 86 1 6 #[40, 44, 46, 50, 61, 72], 40) := by decide +kernel
theorem dX10_letsBy_60 : decode cX10_letsBy 60 = .ok (.iload_n 2, 1) := by decide +kernel
theorem dX10_letsBy_61 : decode cX10_letsBy 61 = .ok (.iconst 2, 1) := by decide +kernel
theorem dX10_letsBy_62 : decode cX10_letsBy 62 = .ok (.idiv, 1) := by decide +kernel
theorem dX10_letsBy_63 : decode cX10_letsBy 63 = .ok (.ireturn, 1) := by decide +kernel
theorem dX10_letsBy_64 : decode cX10_letsBy 64 = .ok (.iload_n 3, 1) := by decide +kernel
theorem dX10_letsBy_65 : decode cX10_letsBy 65 = .ok (.ireturn, 1) := by decide +kernel
theorem dX10_letsBy_66 : decode cX10_letsBy 66 = .ok (.iconst 2, 1) := by decide +kernel
theorem dX10_letsBy_67 : decode cX10_letsBy 67 = .ok (.iload_n 2, 1) := by decide +kernel
theorem dX10_letsBy_68 : decode cX10_letsBy 68 = .ok (.imul, 1) := by decide +kernel
theorem dX10_letsBy_69 : decode cX10_letsBy 69 = .ok (.ireturn, 1) := by decide +kernel
theorem dX10_letsBy_70 : decode cX10_letsBy 70 = .ok (.iload_n 2, 1) := by decide +kernel
theorem dX10_letsBy_71 : decode cX10_letsBy 71 = .ok (.iconst 2, 1) := by decide +kernel
theorem dX10_letsBy_72 : decode cX10_letsBy 72 = .ok (.idiv, 1) := by decide +kernel
theorem dX10_letsBy_73 : decode cX10_letsBy 73 = .ok (.aload_n 0, 1) := by decide +kernel
theorem dX10_letsBy_74 : decode cX10_letsBy 74 = .ok (.iload_n 1, 1) := by decide +kernel
theorem dX10_letsBy_75 : decode cX10_letsBy 75 = .ok (.iconst 1, 1) := by decide +kernel
theorem dX10_letsBy_76 : decode cX10_letsBy 76 = .ok (.invokevirtual 55, 3) := by decide +kernel
theorem dX10_letsBy_79 : decode cX10_letsBy 79 = .ok (.iadd, 1) := by decide +kernel
theorem dX10_letsBy_80 : decode cX10_letsBy 80 = .ok (.ireturn, 1) := by decide +kernel
theorem dX10_letsBy_81 : decode cX10_letsBy 81 = .ok (.iload_n 3, 1) := by decide +kernel
theorem dX10_letsBy_82 : decode cX10_letsBy 82 = .ok (.iconst 4, 1) := by decide +kernel
theorem dX10_letsBy_83 : decode cX10_letsBy 83 = .ok (.if_icmp .le 7, 3) := by decide +kernel
theorem dX10_letsBy_86 : decode cX10_letsBy 86 = .ok (.iconst 4, 1) := by decide +kernel
theorem dX10_letsBy_87 : decode cX10_letsBy 87 = .ok (.goto 4, 3) := by decide +kernel
theorem dX10_letsBy_90 : decode cX10_letsBy 90 = .ok (.iload_n 3, 1) := by decide +kernel
theorem dX10_letsBy_91 : decode cX10_letsBy 91 = .ok (.ireturn, 1) := by decide +kernel
theorem dX10_letsBy_92 : decode cX10_letsBy 92 = .ok (.iload_n 2, 1) := by decide +kernel
theorem dX10_letsBy_93 : decode cX10_letsBy 93 = .ok (.iconst 2, 1) := by decide +kernel
theorem dX10_letsBy_94 : decode cX10_letsBy 94 = .ok (.if_icmp .le 8, 3) := by decide +kernel
theorem dX10_letsBy_97 : decode cX10_letsBy 97 = .ok (.bipush 40, 2) := by decide +kernel
theorem dX10_letsBy_99 : decode cX10_letsBy 99 = .ok (.goto 6, 3) := by decide +kernel
theorem dX10_letsBy_102 : decode cX10_letsBy 102 = .ok (.iload_n 2, 1) := by decide +kernel
theorem dX10_letsBy_103 : decode cX10_letsBy 103 = .ok (.iconst 1, 1) := by decide +kernel
theorem dX10_letsBy_104 : decode cX10_letsBy 104 = .ok (.iadd, 1) := by decide +kernel
theorem dX10_letsBy_105 : decode cX10_letsBy 105 = .ok (.ireturn, 1) := by decide +kernel
theorem dX10_letsBy_106 : decode cX10_letsBy 106 = .ok (.iload_n 2, 1) := by decide +kernel
theorem dX10_letsBy_107 : decode cX10_letsBy 107 = .ok (.ireturn, 1) := by decide +kernel
theorem dX10_eyes_0 : decode cX10_eyes 0 = .ok (.aload_n 0, 1) := by decide +kernel
theorem dX10_eyes_1 : decode cX10_eyes 1 = .ok (.iload_n 1, 1) := by decide +kernel
theorem dX10_eyes_2 : decode cX10_eyes 2 = .ok (.iconst 0, 1) := by decide +kernel
theorem dX10_eyes_3 : decode cX10_eyes 3 = .ok (.invokevirtual 55, 3) := by decide +kernel
theorem dX10_eyes_6 : decode cX10_eyes 6 = .ok (.tableswitch 96 1 6 #[38, 46, 48, 50, 65, 89], 38) := by decide +kernel
theorem dX10_eyes_44 : decode cX10_eyes 44 = .ok (.iconst 2, 1) := by decide +kernel
theorem dX10_eyes_45 : decode cX10_eyes 45 = .ok (.aload_n 0, 1) := by decide +kernel
theorem dX10_eyes_46 : decode cX10_eyes 46 = .ok (.iload_n 1, 1) := by decide +kernel
theorem dX10_eyes_47 : decode cX10_eyes 47 = .ok (.invokevirtual 70, 3) := by decide +kernel
theorem dX10_eyes_50 : decode cX10_eyes 50 = .ok (.iadd, 1) := by decide +kernel
theorem dX10_eyes_51 : decode cX10_eyes 51 = .ok (.ireturn, 1) := by decide +kernel
theorem dX10_eyes_52 : decode cX10_eyes 52 = .ok (.iconst 5, 1) := by decide +kernel
theorem dX10_eyes_53 : decode cX10_eyes 53 = .ok (.ireturn, 1) := by decide +kernel
theorem dX10_eyes_54 : decode cX10_eyes 54 = .ok (.iconst 1, 1) := by decide +kernel
theorem dX10_eyes_55 : decode cX10_eyes 55 = .ok (.ireturn, 1) := by decide +kernel
theorem dX10_eyes_56 : decode cX10_eyes 56 = .ok (.iconst 2, 1) := by decide +kernel
theorem dX10_eyes_57 : decode cX10_eyes 57 = .ok (.aload_n 0, 1) := by decide +kernel
theorem dX10_eyes_58 : decode cX10_eyes 58 = .ok (.iload_n 1, 1) := by decide +kernel
theorem dX10_eyes_59 : decode cX10_eyes 59 = .ok (.invokevirtual 70, 3) := by decide +kernel
theorem dX10_eyes_62 : decode cX10_eyes 62 = .ok (.iadd, 1) := by decide +kernel
theorem dX10_eyes_63 : decode cX10_eyes 63 = .ok (.aload_n 0, 1) := by decide +kernel
theorem dX10_eyes_64 : decode cX10_eyes 64 = .ok (.iload_n 1, 1) := by decide +kernel
theorem dX10_eyes_65 : decode cX10_eyes 65 = .ok (.iconst 1, 1) := by decide +kernel
theorem dX10_eyes_66 : decode cX10_eyes 66 = .ok (.invokevirtual 55, 3) := by decide +kernel
theorem dX10_eyes_69 : decode cX10_eyes 69 = .ok (.iadd, 1) := by decide +kernel
theorem dX10_eyes_70 : decode cX10_eyes 70 = .ok (.ireturn, 1) := by decide +kernel
theorem dX10_eyes_71 : decode cX10_eyes 71 = .ok (.aload_n 0, 1) := by decide +kernel
theorem dX10_eyes_72 : decode cX10_eyes 72 = .ok (.getfield 9, 3) := by decide +kernel
theorem dX10_eyes_75 : decode cX10_eyes 75 = .ok (.iconst 0, 1) := by decide +kernel
theorem dX10_eyes_76 : decode cX10_eyes 76 = .ok (.iaload, 1) := by decide +kernel
theorem dX10_eyes_77 : decode cX10_eyes 77 = .ok (.iconst 2, 1) := by decide +kernel
theorem dX10_eyes_78 : decode cX10_eyes 78 = .ok (.irem, 1) := by decide +kernel
theorem dX10_eyes_79 : decode cX10_eyes 79 = .ok (.ifCond .ne 14, 3) := by decide +kernel
theorem dX10_eyes_82 : decode cX10_eyes 82 = .ok (.iconst 5, 1) := by decide +kernel
theorem dX10_eyes_83 : decode cX10_eyes 83 = .ok (.aload_n 0, 1) := by decide +kernel
theorem dX10_eyes_84 : decode cX10_eyes 84 = .ok (.iload_n 1, 1) := by decide +kernel
theorem dX10_eyes_85 : decode cX10_eyes 85 = .ok (.iconst 1, 1) := by decide +kernel
theorem dX10_eyes_86 : decode cX10_eyes 86 = .ok (.invokevirtual 55, 3) := by decide +kernel
theorem dX10_eyes_89 : decode cX10_eyes 89 = .ok (.iadd, 1) := by decide +kernel
theorem dX10_eyes_90 : decode cX10_eyes 90 = .ok (.goto 4, 3) := by decide +kernel
theorem dX10_eyes_93 : decode cX10_eyes 93 = .ok (.iconst 5, 1) := by decide +kernel
theorem dX10_eyes_94 : decode cX10_eyes 94 = .ok (.ireturn, 1) := by decide +kernel
theorem dX10_eyes_95 : decode cX10_eyes 95 = .ok (.aload_n 0, 1) := by decide +kernel
theorem dX10_eyes_96 : decode cX10_eyes 96 = .ok (.iload_n 1, 1) := by decide +kernel
theorem dX10_eyes_97 : decode cX10_eyes 97 = .ok (.iconst 1, 1) := by decide +kernel
theorem dX10_eyes_98 : decode cX10_eyes 98 = .ok (.invokevirtual 55, 3) := by decide +kernel
theorem dX10_eyes_101 : decode cX10_eyes 101 = .ok (.ireturn, 1) := by decide +kernel
theorem dX10_eyes_102 : decode cX10_eyes 102 = .ok (.iconst 2, 1) := by decide +kernel
theorem dX10_eyes_103 : decode cX10_eyes 103 = .ok (.ireturn, 1) := by decide +kernel
theorem dX10_veils_0 : decode cX10_veils 0 = .ok (.aload_n 0, 1) := by decide +kernel
theorem dX10_veils_1 : decode cX10_veils 1 = .ok (.iload_n 1, 1) := by decide +kernel
theorem dX10_veils_2 : decode cX10_veils 2 = .ok (.iload_n 2, 1) := by decide +kernel
theorem dX10_veils_3 : decode cX10_veils 3 = .ok (.invokevirtual 73, 3) := by decide +kernel
theorem dX10_veils_6 : decode cX10_veils 6 = .ok (.istore_n 3, 1) := by decide +kernel
theorem dX10_veils_7 : decode cX10_veils 7 = .ok (.aload_n 0, 1) := by decide +kernel
theorem dX10_veils_8 : decode cX10_veils 8 = .ok (.iconst 0, 1) := by decide +kernel
theorem dX10_veils_9 : decode cX10_veils 9 = .ok (.aload_n 0, 1) := by decide +kernel
theorem dX10_veils_10 : decode cX10_veils 10 = .ok (.iload_n 1, 1) := by decide +kernel
theorem dX10_veils_11 : decode cX10_veils 11 = .ok (.iload_n 3, 1) := by decide +kernel
theorem dX10_veils_12 : decode cX10_veils 12 = .ok (.invokevirtual 76, 3) := by decide +kernel
theorem dX10_veils_15 : decode cX10_veils 15 = .ok (.iload_n 3, 1) := by decide +kernel
theorem dX10_veils_16 : decode cX10_veils 16 = .ok (.aload_n 0, 1) := by decide +kernel
theorem dX10_veils_17 : decode cX10_veils 17 = .ok (.getfield 9, 3) := by decide +kernel
theorem dX10_veils_20 : decode cX10_veils 20 = .ok (.iconst 0, 1) := by decide +kernel
theorem dX10_veils_21 : decode cX10_veils 21 = .ok (.iaload, 1) := by decide +kernel
theorem dX10_veils_22 : decode cX10_veils 22 = .ok (.bipush 8, 2) := by decide +kernel
theorem dX10_veils_24 : decode cX10_veils 24 = .ok (.irem, 1) := by decide +kernel
theorem dX10_veils_25 : decode cX10_veils 25 = .ok (.invokevirtual 79, 3) := by decide +kernel
theorem dX10_veils_28 : decode cX10_veils 28 = .ok (.ireturn, 1) := by decide +kernel
theorem dX10_sight_0 : decode cX10_sight 0 = .ok (.aload_n 0, 1) := by decide +kernel
theorem dX10_sight_1 : decode cX10_sight 1 = .ok (.iconst 1, 1) := by decide +kernel
theorem dX10_sight_2 : decode cX10_sight 2 = .ok (.aload_n 0, 1) := by decide +kernel
theorem dX10_sight_3 : decode cX10_sight 3 = .ok (.iload_n 1, 1) := by decide +kernel
theorem dX10_sight_4 : decode cX10_sight 4 = .ok (.invokevirtual 83, 3) := by decide +kernel
theorem dX10_sight_7 : decode cX10_sight 7 = .ok (.aload_n 0, 1) := by decide +kernel
theorem dX10_sight_8 : decode cX10_sight 8 = .ok (.getfield 9, 3) := by decide +kernel
theorem dX10_sight_11 : decode cX10_sight 11 = .ok (.iconst 0, 1) := by decide +kernel
theorem dX10_sight_12 : decode cX10_sight 12 = .ok (.iaload, 1) := by decide +kernel
theorem dX10_sight_13 : decode cX10_sight 13 = .ok (.bipush 8, 2) := by decide +kernel
theorem dX10_sight_15 : decode cX10_sight 15 = .ok (.irem, 1) := by decide +kernel
theorem dX10_sight_16 : decode cX10_sight 16 = .ok (.aload_n 0, 1) := by decide +kernel
theorem dX10_sight_17 : decode cX10_sight 17 = .ok (.getfield 9, 3) := by decide +kernel
theorem dX10_sight_20 : decode cX10_sight 20 = .ok (.iconst 3, 1) := by decide +kernel
theorem dX10_sight_21 : decode cX10_sight 21 = .ok (.iaload, 1) := by decide +kernel
theorem dX10_sight_22 : decode cX10_sight 22 = .ok (.bipush 10, 2) := by decide +kernel
theorem dX10_sight_24 : decode cX10_sight 24 = .ok (.idiv, 1) := by decide +kernel
theorem dX10_sight_25 : decode cX10_sight 25 = .ok (.invokevirtual 79, 3) := by decide +kernel
theorem dX10_sight_28 : decode cX10_sight 28 = .ok (.ireturn, 1) := by decide +kernel
theorem dX10_allSeen_0 : decode cX10_allSeen 0 = .ok (.iconst 0, 1) := by decide +kernel
theorem dX10_allSeen_1 : decode cX10_allSeen 1 = .ok (.istore_n 1, 1) := by decide +kernel
theorem dX10_allSeen_2 : decode cX10_allSeen 2 = .ok (.iconst 0, 1) := by decide +kernel
theorem dX10_allSeen_3 : decode cX10_allSeen 3 = .ok (.istore_n 2, 1) := by decide +kernel
theorem dX10_allSeen_4 : decode cX10_allSeen 4 = .ok (.iload_n 2, 1) := by decide +kernel
theorem dX10_allSeen_5 : decode cX10_allSeen 5 = .ok (.aload_n 0, 1) := by decide +kernel
theorem dX10_allSeen_6 : decode cX10_allSeen 6 = .ok (.getfield 9, 3) := by decide +kernel
theorem dX10_allSeen_9 : decode cX10_allSeen 9 = .ok (.iconst 2, 1) := by decide +kernel
theorem dX10_allSeen_10 : decode cX10_allSeen 10 = .ok (.iaload, 1) := by decide +kernel
theorem dX10_allSeen_11 : decode cX10_allSeen 11 = .ok (.if_icmp .ge 21, 3) := by decide +kernel
theorem dX10_allSeen_14 : decode cX10_allSeen 14 = .ok (.iload_n 1, 1) := by decide +kernel
theorem dX10_allSeen_15 : decode cX10_allSeen 15 = .ok (.aload_n 0, 1) := by decide +kernel
theorem dX10_allSeen_16 : decode cX10_allSeen 16 = .ok (.iload_n 2, 1) := by decide +kernel
theorem dX10_allSeen_17 : decode cX10_allSeen 17 = .ok (.iconst 4, 1) := by decide +kernel
theorem dX10_allSeen_18 : decode cX10_allSeen 18 = .ok (.invokevirtual 55, 3) := by decide +kernel
theorem dX10_allSeen_21 : decode cX10_allSeen 21 = .ok (.invokestatic 67, 3) := by decide +kernel
theorem dX10_allSeen_24 : decode cX10_allSeen 24 = .ok (.iadd, 1) := by decide +kernel
theorem dX10_allSeen_25 : decode cX10_allSeen 25 = .ok (.istore_n 1, 1) := by decide +kernel
theorem dX10_allSeen_26 : decode cX10_allSeen 26 = .ok (.iinc 2 1, 3) := by decide +kernel
theorem dX10_allSeen_29 : decode cX10_allSeen 29 = .ok (.goto (-25), 3) := by decide +kernel
theorem dX10_allSeen_32 : decode cX10_allSeen 32 = .ok (.iload_n 1, 1) := by decide +kernel
theorem dX10_allSeen_33 : decode cX10_allSeen 33 = .ok (.ireturn, 1) := by decide +kernel
theorem dX10_seersOf_0 : decode cX10_seersOf 0 = .ok (.iconst 0, 1) := by decide +kernel
theorem dX10_seersOf_1 : decode cX10_seersOf 1 = .ok (.istore_n 2, 1) := by decide +kernel
theorem dX10_seersOf_2 : decode cX10_seersOf 2 = .ok (.iconst 0, 1) := by decide +kernel
theorem dX10_seersOf_3 : decode cX10_seersOf 3 = .ok (.istore_n 3, 1) := by decide +kernel
theorem dX10_seersOf_4 : decode cX10_seersOf 4 = .ok (.iload_n 3, 1) := by decide +kernel
theorem dX10_seersOf_5 : decode cX10_seersOf 5 = .ok (.aload_n 0, 1) := by decide +kernel
theorem dX10_seersOf_6 : decode cX10_seersOf 6 = .ok (.getfield 9, 3) := by decide +kernel
theorem dX10_seersOf_9 : decode cX10_seersOf 9 = .ok (.iconst 2, 1) := by decide +kernel
theorem dX10_seersOf_10 : decode cX10_seersOf 10 = .ok (.iaload, 1) := by decide +kernel
theorem dX10_seersOf_11 : decode cX10_seersOf 11 = .ok (.if_icmp .ge 33, 3) := by decide +kernel
theorem dX10_seersOf_14 : decode cX10_seersOf 14 = .ok (.iload_n 2, 1) := by decide +kernel
theorem dX10_seersOf_15 : decode cX10_seersOf 15 = .ok (.aload_n 0, 1) := by decide +kernel
theorem dX10_seersOf_16 : decode cX10_seersOf 16 = .ok (.iload_n 3, 1) := by decide +kernel
theorem dX10_seersOf_17 : decode cX10_seersOf 17 = .ok (.iconst 4, 1) := by decide +kernel
theorem dX10_seersOf_18 : decode cX10_seersOf 18 = .ok (.invokevirtual 55, 3) := by decide +kernel
theorem dX10_seersOf_21 : decode cX10_seersOf 21 = .ok (.iload_n 1, 1) := by decide +kernel
theorem dX10_seersOf_22 : decode cX10_seersOf 22 = .ok (.ishr, 1) := by decide +kernel
theorem dX10_seersOf_23 : decode cX10_seersOf 23 = .ok (.iconst 1, 1) := by decide +kernel
theorem dX10_seersOf_24 : decode cX10_seersOf 24 = .ok (.iand, 1) := by decide +kernel
theorem dX10_seersOf_25 : decode cX10_seersOf 25 = .ok (.iconst 1, 1) := by decide +kernel
theorem dX10_seersOf_26 : decode cX10_seersOf 26 = .ok (.if_icmp .ne 9, 3) := by decide +kernel
theorem dX10_seersOf_29 : decode cX10_seersOf 29 = .ok (.iconst 1, 1) := by decide +kernel
theorem dX10_seersOf_30 : decode cX10_seersOf 30 = .ok (.iload_n 3, 1) := by decide +kernel
theorem dX10_seersOf_31 : decode cX10_seersOf 31 = .ok (.ishl, 1) := by decide +kernel
theorem dX10_seersOf_32 : decode cX10_seersOf 32 = .ok (.goto 4, 3) := by decide +kernel
theorem dX10_seersOf_35 : decode cX10_seersOf 35 = .ok (.iconst 0, 1) := by decide +kernel
end
section
theorem dX10_seersOf_36 : decode cX10_seersOf 36 = .ok (.ior, 1) := by decide +kernel
theorem dX10_seersOf_37 : decode cX10_seersOf 37 = .ok (.istore_n 2, 1) := by decide +kernel
theorem dX10_seersOf_38 : decode cX10_seersOf 38 = .ok (.iinc 3 1, 3) := by decide +kernel
theorem dX10_seersOf_41 : decode cX10_seersOf 41 = .ok (.goto (-37), 3) := by decide +kernel
theorem dX10_seersOf_44 : decode cX10_seersOf 44 = .ok (.iload_n 2, 1) := by decide +kernel
theorem dX10_seersOf_45 : decode cX10_seersOf 45 = .ok (.ireturn, 1) := by decide +kernel
theorem dX10_isKm_0 : decode cX10_isKm 0 = .ok (.iload_n 0, 1) := by decide +kernel
theorem dX10_isKm_1 : decode cX10_isKm 1 = .ok (.iconst 0, 1) := by decide +kernel
theorem dX10_isKm_2 : decode cX10_isKm 2 = .ok (.bipush 69, 2) := by decide +kernel
theorem dX10_isKm_4 : decode cX10_isKm 4 = .ok (.invokestatic 51, 3) := by decide +kernel
theorem dX10_isKm_7 : decode cX10_isKm 7 = .ok (.ireturn, 1) := by decide +kernel
theorem dX10_person_0 : decode cX10_person 0 = .ok (.iload_n 1, 1) := by decide +kernel
theorem dX10_person_1 : decode cX10_person 1 = .ok (.invokestatic 86, 3) := by decide +kernel
theorem dX10_person_4 : decode cX10_person 4 = .ok (.ifCond .eq 19, 3) := by decide +kernel
theorem dX10_person_7 : decode cX10_person 7 = .ok (.iload_n 2, 1) := by decide +kernel
theorem dX10_person_8 : decode cX10_person 8 = .ok (.iconst (-1), 1) := by decide +kernel
theorem dX10_person_9 : decode cX10_person 9 = .ok (.aload_n 0, 1) := by decide +kernel
theorem dX10_person_10 : decode cX10_person 10 = .ok (.getfield 9, 3) := by decide +kernel
theorem dX10_person_13 : decode cX10_person 13 = .ok (.iconst 2, 1) := by decide +kernel
theorem dX10_person_14 : decode cX10_person 14 = .ok (.iaload, 1) := by decide +kernel
theorem dX10_person_15 : decode cX10_person 15 = .ok (.iconst 1, 1) := by decide +kernel
theorem dX10_person_16 : decode cX10_person 16 = .ok (.isub, 1) := by decide +kernel
theorem dX10_person_17 : decode cX10_person 17 = .ok (.invokestatic 51, 3) := by decide +kernel
theorem dX10_person_20 : decode cX10_person 20 = .ok (.ifCond .ne 10, 3) := by decide +kernel
theorem dX10_person_23 : decode cX10_person 23 = .ok (.aload_n 0, 1) := by decide +kernel
theorem dX10_person_24 : decode cX10_person 24 = .ok (.ldc 90, 2) := by decide +kernel
theorem dX10_person_26 : decode cX10_person 26 = .ok (.invokevirtual 91, 3) := by decide +kernel
theorem dX10_person_29 : decode cX10_person 29 = .ok (.ireturn, 1) := by decide +kernel
theorem dX10_person_30 : decode cX10_person 30 = .ok (.aload_n 0, 1) := by decide +kernel
theorem dX10_person_31 : decode cX10_person 31 = .ok (.getfield 9, 3) := by decide +kernel
theorem dX10_person_34 : decode cX10_person 34 = .ok (.iconst 2, 1) := by decide +kernel
theorem dX10_person_35 : decode cX10_person 35 = .ok (.iaload, 1) := by decide +kernel
theorem dX10_person_36 : decode cX10_person 36 = .ok (.istore_n 3, 1) := by decide +kernel
theorem dX10_person_37 : decode cX10_person 37 = .ok (.iload_n 3, 1) := by decide +kernel
theorem dX10_person_38 : decode cX10_person 38 = .ok (.bipush 8, 2) := by decide +kernel
theorem dX10_person_40 : decode cX10_person 40 = .ok (.if_icmp .ne 10, 3) := by decide +kernel
theorem dX10_person_43 : decode cX10_person 43 = .ok (.aload_n 0, 1) := by decide +kernel
theorem dX10_person_44 : decode cX10_person 44 = .ok (.ldc 94, 2) := by decide +kernel
theorem dX10_person_46 : decode cX10_person 46 = .ok (.invokevirtual 91, 3) := by decide +kernel
theorem dX10_person_49 : decode cX10_person 49 = .ok (.ireturn, 1) := by decide +kernel
theorem dX10_person_50 : decode cX10_person 50 = .ok (.aload_n 0, 1) := by decide +kernel
theorem dX10_person_51 : decode cX10_person 51 = .ok (.getfield 9, 3) := by decide +kernel
theorem dX10_person_54 : decode cX10_person 54 = .ok (.iconst 2, 1) := by decide +kernel
theorem dX10_person_55 : decode cX10_person 55 = .ok (.dup2, 1) := by decide +kernel
theorem dX10_person_56 : decode cX10_person 56 = .ok (.iaload, 1) := by decide +kernel
theorem dX10_person_57 : decode cX10_person 57 = .ok (.iconst 1, 1) := by decide +kernel
theorem dX10_person_58 : decode cX10_person 58 = .ok (.iadd, 1) := by decide +kernel
theorem dX10_person_59 : decode cX10_person 59 = .ok (.iastore, 1) := by decide +kernel
theorem dX10_person_60 : decode cX10_person 60 = .ok (.aload_n 0, 1) := by decide +kernel
theorem dX10_person_61 : decode cX10_person 61 = .ok (.iload_n 3, 1) := by decide +kernel
theorem dX10_person_62 : decode cX10_person 62 = .ok (.iconst 0, 1) := by decide +kernel
theorem dX10_person_63 : decode cX10_person 63 = .ok (.iload_n 1, 1) := by decide +kernel
theorem dX10_person_64 : decode cX10_person 64 = .ok (.bipush 10, 2) := by decide +kernel
theorem dX10_person_66 : decode cX10_person 66 = .ok (.idiv, 1) := by decide +kernel
theorem dX10_person_67 : decode cX10_person 67 = .ok (.invokevirtual 95, 3) := by decide +kernel
theorem dX10_person_70 : decode cX10_person 70 = .ok (.aload_n 0, 1) := by decide +kernel
theorem dX10_person_71 : decode cX10_person 71 = .ok (.iload_n 3, 1) := by decide +kernel
theorem dX10_person_72 : decode cX10_person 72 = .ok (.iconst 1, 1) := by decide +kernel
theorem dX10_person_73 : decode cX10_person 73 = .ok (.iload_n 1, 1) := by decide +kernel
theorem dX10_person_74 : decode cX10_person 74 = .ok (.bipush 10, 2) := by decide +kernel
theorem dX10_person_76 : decode cX10_person 76 = .ok (.irem, 1) := by decide +kernel
theorem dX10_person_77 : decode cX10_person 77 = .ok (.invokevirtual 95, 3) := by decide +kernel
theorem dX10_person_80 : decode cX10_person 80 = .ok (.aload_n 0, 1) := by decide +kernel
theorem dX10_person_81 : decode cX10_person 81 = .ok (.iload_n 3, 1) := by decide +kernel
theorem dX10_person_82 : decode cX10_person 82 = .ok (.iconst 2, 1) := by decide +kernel
theorem dX10_person_83 : decode cX10_person 83 = .ok (.iload_n 2, 1) := by decide +kernel
theorem dX10_person_84 : decode cX10_person 84 = .ok (.invokevirtual 95, 3) := by decide +kernel
theorem dX10_person_87 : decode cX10_person 87 = .ok (.aload_n 0, 1) := by decide +kernel
theorem dX10_person_88 : decode cX10_person 88 = .ok (.iload_n 3, 1) := by decide +kernel
theorem dX10_person_89 : decode cX10_person 89 = .ok (.iconst 3, 1) := by decide +kernel
theorem dX10_person_90 : decode cX10_person 90 = .ok (.iconst (-1), 1) := by decide +kernel
theorem dX10_person_91 : decode cX10_person 91 = .ok (.invokevirtual 95, 3) := by decide +kernel
theorem dX10_person_94 : decode cX10_person 94 = .ok (.aload_n 0, 1) := by decide +kernel
theorem dX10_person_95 : decode cX10_person 95 = .ok (.iload_n 3, 1) := by decide +kernel
theorem dX10_person_96 : decode cX10_person 96 = .ok (.iconst 4, 1) := by decide +kernel
theorem dX10_person_97 : decode cX10_person 97 = .ok (.iconst 0, 1) := by decide +kernel
theorem dX10_person_98 : decode cX10_person 98 = .ok (.invokevirtual 95, 3) := by decide +kernel
theorem dX10_person_101 : decode cX10_person 101 = .ok (.iload_n 3, 1) := by decide +kernel
theorem dX10_person_102 : decode cX10_person 102 = .ok (.ireturn, 1) := by decide +kernel
theorem dX10_personIs_0 : decode cX10_personIs 0 = .ok (.aload_n 0, 1) := by decide +kernel
theorem dX10_personIs_1 : decode cX10_personIs 1 = .ok (.iload_n 1, 1) := by decide +kernel
theorem dX10_personIs_2 : decode cX10_personIs 2 = .ok (.invokevirtual 99, 3) := by decide +kernel
theorem dX10_personIs_5 : decode cX10_personIs 5 = .ok (.ifCond .eq 12, 3) := by decide +kernel
theorem dX10_personIs_8 : decode cX10_personIs 8 = .ok (.iload_n 2, 1) := by decide +kernel
theorem dX10_personIs_9 : decode cX10_personIs 9 = .ok (.iconst 0, 1) := by decide +kernel
theorem dX10_personIs_10 : decode cX10_personIs 10 = .ok (.iconst 5, 1) := by decide +kernel
theorem dX10_personIs_11 : decode cX10_personIs 11 = .ok (.invokestatic 51, 3) := by decide +kernel
theorem dX10_personIs_14 : decode cX10_personIs 14 = .ok (.ifCond .ne 10, 3) := by decide +kernel
theorem dX10_personIs_17 : decode cX10_personIs 17 = .ok (.aload_n 0, 1) := by decide +kernel
theorem dX10_personIs_18 : decode cX10_personIs 18 = .ok (.ldc 90, 2) := by decide +kernel
theorem dX10_personIs_20 : decode cX10_personIs 20 = .ok (.invokevirtual 91, 3) := by decide +kernel
theorem dX10_personIs_23 : decode cX10_personIs 23 = .ok (.ireturn, 1) := by decide +kernel
theorem dX10_personIs_24 : decode cX10_personIs 24 = .ok (.iload_n 2, 1) := by decide +kernel
theorem dX10_personIs_25 : decode cX10_personIs 25 = .ok (.iconst 5, 1) := by decide +kernel
theorem dX10_personIs_26 : decode cX10_personIs 26 = .ok (.if_icmp .ge 12, 3) := by decide +kernel
theorem dX10_personIs_29 : decode cX10_personIs 29 = .ok (.aload_n 0, 1) := by decide +kernel
theorem dX10_personIs_30 : decode cX10_personIs 30 = .ok (.iload_n 1, 1) := by decide +kernel
theorem dX10_personIs_31 : decode cX10_personIs 31 = .ok (.iload_n 2, 1) := by decide +kernel
theorem dX10_personIs_32 : decode cX10_personIs 32 = .ok (.invokevirtual 55, 3) := by decide +kernel
theorem dX10_personIs_35 : decode cX10_personIs 35 = .ok (.goto 8, 3) := by decide +kernel
theorem dX10_personIs_38 : decode cX10_personIs 38 = .ok (.aload_n 0, 1) := by decide +kernel
theorem dX10_personIs_39 : decode cX10_personIs 39 = .ok (.iload_n 1, 1) := by decide +kernel
theorem dX10_personIs_40 : decode cX10_personIs 40 = .ok (.invokevirtual 102, 3) := by decide +kernel
theorem dX10_personIs_43 : decode cX10_personIs 43 = .ok (.ireturn, 1) := by decide +kernel
theorem dX10_become_0 : decode cX10_become 0 = .ok (.aload_n 0, 1) := by decide +kernel
theorem dX10_become_1 : decode cX10_become 1 = .ok (.iload_n 1, 1) := by decide +kernel
theorem dX10_become_2 : decode cX10_become 2 = .ok (.invokevirtual 99, 3) := by decide +kernel
theorem dX10_become_5 : decode cX10_become 5 = .ok (.ifCond .eq 10, 3) := by decide +kernel
theorem dX10_become_8 : decode cX10_become 8 = .ok (.iload_n 2, 1) := by decide +kernel
theorem dX10_become_9 : decode cX10_become 9 = .ok (.invokestatic 86, 3) := by decide +kernel
theorem dX10_become_12 : decode cX10_become 12 = .ok (.ifCond .ne 10, 3) := by decide +kernel
theorem dX10_become_15 : decode cX10_become 15 = .ok (.aload_n 0, 1) := by decide +kernel
theorem dX10_become_16 : decode cX10_become 16 = .ok (.ldc 90, 2) := by decide +kernel
theorem dX10_become_18 : decode cX10_become 18 = .ok (.invokevirtual 91, 3) := by decide +kernel
theorem dX10_become_21 : decode cX10_become 21 = .ok (.ireturn, 1) := by decide +kernel
theorem dX10_become_22 : decode cX10_become 22 = .ok (.aload_n 0, 1) := by decide +kernel
theorem dX10_become_23 : decode cX10_become 23 = .ok (.iload_n 1, 1) := by decide +kernel
theorem dX10_become_24 : decode cX10_become 24 = .ok (.iconst 1, 1) := by decide +kernel
theorem dX10_become_25 : decode cX10_become 25 = .ok (.iload_n 2, 1) := by decide +kernel
theorem dX10_become_26 : decode cX10_become 26 = .ok (.bipush 10, 2) := by decide +kernel
theorem dX10_become_28 : decode cX10_become 28 = .ok (.irem, 1) := by decide +kernel
theorem dX10_become_29 : decode cX10_become 29 = .ok (.invokevirtual 95, 3) := by decide +kernel
theorem dX10_become_32 : decode cX10_become 32 = .ok (.aload_n 0, 1) := by decide +kernel
theorem dX10_become_33 : decode cX10_become 33 = .ok (.bipush 19, 2) := by decide +kernel
theorem dX10_become_35 : decode cX10_become 35 = .ok (.iconst 5, 1) := by decide +kernel
theorem dX10_become_36 : decode cX10_become 36 = .ok (.iload_n 1, 1) := by decide +kernel
theorem dX10_become_37 : decode cX10_become 37 = .ok (.imul, 1) := by decide +kernel
theorem dX10_become_38 : decode cX10_become 38 = .ok (.iadd, 1) := by decide +kernel
theorem dX10_become_39 : decode cX10_become 39 = .ok (.iload_n 2, 1) := by decide +kernel
theorem dX10_become_40 : decode cX10_become 40 = .ok (.bipush 10, 2) := by decide +kernel
theorem dX10_become_42 : decode cX10_become 42 = .ok (.idiv, 1) := by decide +kernel
theorem dX10_become_43 : decode cX10_become 43 = .ok (.invokevirtual 105, 3) := by decide +kernel
theorem dX10_become_46 : decode cX10_become 46 = .ok (.ireturn, 1) := by decide +kernel
theorem dX10_as_0 : decode cX10_as 0 = .ok (.aload_n 0, 1) := by decide +kernel
theorem dX10_as_1 : decode cX10_as 1 = .ok (.iload_n 1, 1) := by decide +kernel
theorem dX10_as_2 : decode cX10_as 2 = .ok (.invokevirtual 99, 3) := by decide +kernel
theorem dX10_as_5 : decode cX10_as 5 = .ok (.ifCond .eq 13, 3) := by decide +kernel
theorem dX10_as_8 : decode cX10_as 8 = .ok (.iload_n 2, 1) := by decide +kernel
theorem dX10_as_9 : decode cX10_as 9 = .ok (.iconst 0, 1) := by decide +kernel
theorem dX10_as_10 : decode cX10_as 10 = .ok (.bipush 6, 2) := by decide +kernel
theorem dX10_as_12 : decode cX10_as 12 = .ok (.invokestatic 51, 3) := by decide +kernel
theorem dX10_as_15 : decode cX10_as 15 = .ok (.ifCond .ne 10, 3) := by decide +kernel
theorem dX10_as_18 : decode cX10_as 18 = .ok (.aload_n 0, 1) := by decide +kernel
theorem dX10_as_19 : decode cX10_as 19 = .ok (.ldc 90, 2) := by decide +kernel
theorem dX10_as_21 : decode cX10_as 21 = .ok (.invokevirtual 91, 3) := by decide +kernel
theorem dX10_as_24 : decode cX10_as 24 = .ok (.ireturn, 1) := by decide +kernel
theorem dX10_as_25 : decode cX10_as 25 = .ok (.aload_n 0, 1) := by decide +kernel
theorem dX10_as_26 : decode cX10_as 26 = .ok (.iload_n 1, 1) := by decide +kernel
theorem dX10_as_27 : decode cX10_as 27 = .ok (.iconst 0, 1) := by decide +kernel
theorem dX10_as_28 : decode cX10_as 28 = .ok (.invokevirtual 55, 3) := by decide +kernel
theorem dX10_as_31 : decode cX10_as 31 = .ok (.istore_n 3, 1) := by decide +kernel
theorem dX10_as_32 : decode cX10_as 32 = .ok (.iload_n 2, 1) := by decide +kernel
theorem dX10_as_33 : decode cX10_as 33 = .ok (.ifCond .eq 28, 3) := by decide +kernel
theorem dX10_as_36 : decode cX10_as 36 = .ok (.iload_n 2, 1) := by decide +kernel
theorem dX10_as_37 : decode cX10_as 37 = .ok (.iload_n 3, 1) := by decide +kernel
theorem dX10_as_38 : decode cX10_as 38 = .ok (.if_icmp .eq 23, 3) := by decide +kernel
theorem dX10_as_41 : decode cX10_as 41 = .ok (.iload_n 2, 1) := by decide +kernel
theorem dX10_as_42 : decode cX10_as 42 = .ok (.iconst 1, 1) := by decide +kernel
theorem dX10_as_43 : decode cX10_as 43 = .ok (.if_icmp .ne 8, 3) := by decide +kernel
theorem dX10_as_46 : decode cX10_as 46 = .ok (.iload_n 3, 1) := by decide +kernel
theorem dX10_as_47 : decode cX10_as 47 = .ok (.iconst 4, 1) := by decide +kernel
theorem dX10_as_48 : decode cX10_as 48 = .ok (.if_icmp .eq 13, 3) := by decide +kernel
theorem dX10_as_51 : decode cX10_as 51 = .ok (.iload_n 2, 1) := by decide +kernel
theorem dX10_as_52 : decode cX10_as 52 = .ok (.iconst 2, 1) := by decide +kernel
theorem dX10_as_53 : decode cX10_as 53 = .ok (.if_icmp .ne 12, 3) := by decide +kernel
theorem dX10_as_56 : decode cX10_as 56 = .ok (.iload_n 3, 1) := by decide +kernel
theorem dX10_as_57 : decode cX10_as 57 = .ok (.iconst 5, 1) := by decide +kernel
theorem dX10_as_58 : decode cX10_as 58 = .ok (.if_icmp .ne 7, 3) := by decide +kernel
theorem dX10_as_61 : decode cX10_as 61 = .ok (.iconst 1, 1) := by decide +kernel
theorem dX10_as_62 : decode cX10_as 62 = .ok (.goto 4, 3) := by decide +kernel
theorem dX10_as_65 : decode cX10_as 65 = .ok (.iconst 0, 1) := by decide +kernel
theorem dX10_as_66 : decode cX10_as 66 = .ok (.istore 4, 2) := by decide +kernel
theorem dX10_as_68 : decode cX10_as 68 = .ok (.iload 4, 2) := by decide +kernel
theorem dX10_as_70 : decode cX10_as 70 = .ok (.ifCond .eq 12, 3) := by decide +kernel
theorem dX10_as_73 : decode cX10_as 73 = .ok (.aload_n 0, 1) := by decide +kernel
theorem dX10_as_74 : decode cX10_as 74 = .ok (.iload_n 1, 1) := by decide +kernel
theorem dX10_as_75 : decode cX10_as 75 = .ok (.iconst 1, 1) := by decide +kernel
theorem dX10_as_76 : decode cX10_as 76 = .ok (.invokevirtual 55, 3) := by decide +kernel
theorem dX10_as_79 : decode cX10_as 79 = .ok (.goto 9, 3) := by decide +kernel
theorem dX10_as_82 : decode cX10_as 82 = .ok (.aload_n 0, 1) := by decide +kernel
theorem dX10_as_83 : decode cX10_as 83 = .ok (.ldc 108, 2) := by decide +kernel
theorem dX10_as_85 : decode cX10_as 85 = .ok (.invokevirtual 91, 3) := by decide +kernel
theorem dX10_as_88 : decode cX10_as 88 = .ok (.ireturn, 1) := by decide +kernel
theorem dX10_descends_0 : decode cX10_descends 0 = .ok (.aload_n 0, 1) := by decide +kernel
theorem dX10_descends_1 : decode cX10_descends 1 = .ok (.iload_n 1, 1) := by decide +kernel
theorem dX10_descends_2 : decode cX10_descends 2 = .ok (.invokevirtual 99, 3) := by decide +kernel
theorem dX10_descends_5 : decode cX10_descends 5 = .ok (.ifCond .eq 30, 3) := by decide +kernel
theorem dX10_descends_8 : decode cX10_descends 8 = .ok (.iload_n 2, 1) := by decide +kernel
theorem dX10_descends_9 : decode cX10_descends 9 = .ok (.iconst (-1), 1) := by decide +kernel
theorem dX10_descends_10 : decode cX10_descends 10 = .ok (.iload_n 1, 1) := by decide +kernel
theorem dX10_descends_11 : decode cX10_descends 11 = .ok (.iconst 1, 1) := by decide +kernel
theorem dX10_descends_12 : decode cX10_descends 12 = .ok (.isub, 1) := by decide +kernel
theorem dX10_descends_13 : decode cX10_descends 13 = .ok (.invokestatic 51, 3) := by decide +kernel
theorem dX10_descends_16 : decode cX10_descends 16 = .ok (.ifCond .eq 19, 3) := by decide +kernel
theorem dX10_descends_19 : decode cX10_descends 19 = .ok (.aload_n 0, 1) := by decide +kernel
theorem dX10_descends_20 : decode cX10_descends 20 = .ok (.bipush 19, 2) := by decide +kernel
theorem dX10_descends_22 : decode cX10_descends 22 = .ok (.iconst 5, 1) := by decide +kernel
theorem dX10_descends_23 : decode cX10_descends 23 = .ok (.iload_n 1, 1) := by decide +kernel
theorem dX10_descends_24 : decode cX10_descends 24 = .ok (.imul, 1) := by decide +kernel
theorem dX10_descends_25 : decode cX10_descends 25 = .ok (.iadd, 1) := by decide +kernel
theorem dX10_descends_26 : decode cX10_descends 26 = .ok (.iconst 2, 1) := by decide +kernel
theorem dX10_descends_27 : decode cX10_descends 27 = .ok (.iadd, 1) := by decide +kernel
theorem dX10_descends_28 : decode cX10_descends 28 = .ok (.iload_n 2, 1) := by decide +kernel
theorem dX10_descends_29 : decode cX10_descends 29 = .ok (.invokevirtual 105, 3) := by decide +kernel
theorem dX10_descends_32 : decode cX10_descends 32 = .ok (.goto 9, 3) := by decide +kernel
theorem dX10_descends_35 : decode cX10_descends 35 = .ok (.aload_n 0, 1) := by decide +kernel
theorem dX10_descends_36 : decode cX10_descends 36 = .ok (.ldc 90, 2) := by decide +kernel
theorem dX10_descends_38 : decode cX10_descends 38 = .ok (.invokevirtual 91, 3) := by decide +kernel
theorem dX10_descends_41 : decode cX10_descends 41 = .ok (.ireturn, 1) := by decide +kernel
theorem dX10_weds_0 : decode cX10_weds 0 = .ok (.aload_n 0, 1) := by decide +kernel
theorem dX10_weds_1 : decode cX10_weds 1 = .ok (.iload_n 1, 1) := by decide +kernel
theorem dX10_weds_2 : decode cX10_weds 2 = .ok (.iconst 3, 1) := by decide +kernel
theorem dX10_weds_3 : decode cX10_weds 3 = .ok (.iload_n 2, 1) := by decide +kernel
theorem dX10_weds_4 : decode cX10_weds 4 = .ok (.invokevirtual 95, 3) := by decide +kernel
theorem dX10_weds_7 : decode cX10_weds 7 = .ok (.aload_n 0, 1) := by decide +kernel
theorem dX10_weds_8 : decode cX10_weds 8 = .ok (.iload_n 2, 1) := by decide +kernel
theorem dX10_weds_9 : decode cX10_weds 9 = .ok (.iconst 3, 1) := by decide +kernel
theorem dX10_weds_10 : decode cX10_weds 10 = .ok (.iload_n 1, 1) := by decide +kernel
theorem dX10_weds_11 : decode cX10_weds 11 = .ok (.invokevirtual 95, 3) := by decide +kernel
theorem dX10_weds_14 : decode cX10_weds 14 = .ok (.return_, 1) := by decide +kernel
theorem dX10_marries_0 : decode cX10_marries 0 = .ok (.aload_n 0, 1) := by decide +kernel
theorem dX10_marries_1 : decode cX10_marries 1 = .ok (.iload_n 1, 1) := by decide +kernel
theorem dX10_marries_2 : decode cX10_marries 2 = .ok (.invokevirtual 99, 3) := by decide +kernel
theorem dX10_marries_5 : decode cX10_marries 5 = .ok (.ifCond .eq 16, 3) := by decide +kernel
theorem dX10_marries_8 : decode cX10_marries 8 = .ok (.aload_n 0, 1) := by decide +kernel
theorem dX10_marries_9 : decode cX10_marries 9 = .ok (.iload_n 2, 1) := by decide +kernel
theorem dX10_marries_10 : decode cX10_marries 10 = .ok (.invokevirtual 99, 3) := by decide +kernel
theorem dX10_marries_13 : decode cX10_marries 13 = .ok (.ifCond .eq 8, 3) := by decide +kernel
theorem dX10_marries_16 : decode cX10_marries 16 = .ok (.iload_n 1, 1) := by decide +kernel
theorem dX10_marries_17 : decode cX10_marries 17 = .ok (.iload_n 2, 1) := by decide +kernel
theorem dX10_marries_18 : decode cX10_marries 18 = .ok (.if_icmp .ne 10, 3) := by decide +kernel
theorem dX10_marries_21 : decode cX10_marries 21 = .ok (.aload_n 0, 1) := by decide +kernel
theorem dX10_marries_22 : decode cX10_marries 22 = .ok (.ldc 90, 2) := by decide +kernel
theorem dX10_marries_24 : decode cX10_marries 24 = .ok (.invokevirtual 91, 3) := by decide +kernel
theorem dX10_marries_27 : decode cX10_marries 27 = .ok (.ireturn, 1) := by decide +kernel
theorem dX10_marries_28 : decode cX10_marries 28 = .ok (.aload_n 0, 1) := by decide +kernel
theorem dX10_marries_29 : decode cX10_marries 29 = .ok (.iload_n 1, 1) := by decide +kernel
theorem dX10_marries_30 : decode cX10_marries 30 = .ok (.iconst 3, 1) := by decide +kernel
theorem dX10_marries_31 : decode cX10_marries 31 = .ok (.invokevirtual 55, 3) := by decide +kernel
theorem dX10_marries_34 : decode cX10_marries 34 = .ok (.ifCond .ge 12, 3) := by decide +kernel
theorem dX10_marries_37 : decode cX10_marries 37 = .ok (.aload_n 0, 1) := by decide +kernel
theorem dX10_marries_38 : decode cX10_marries 38 = .ok (.iload_n 2, 1) := by decide +kernel
theorem dX10_marries_39 : decode cX10_marries 39 = .ok (.iconst 3, 1) := by decide +kernel
theorem dX10_marries_40 : decode cX10_marries 40 = .ok (.invokevirtual 55, 3) := by decide +kernel
theorem dX10_marries_43 : decode cX10_marries 43 = .ok (.ifCond .lt 10, 3) := by decide +kernel
theorem dX10_marries_46 : decode cX10_marries 46 = .ok (.aload_n 0, 1) := by decide +kernel
theorem dX10_marries_47 : decode cX10_marries 47 = .ok (.ldc 109, 2) := by decide +kernel
theorem dX10_marries_49 : decode cX10_marries 49 = .ok (.invokevirtual 91, 3) := by decide +kernel
theorem dX10_marries_52 : decode cX10_marries 52 = .ok (.ireturn, 1) := by decide +kernel
theorem dX10_marries_53 : decode cX10_marries 53 = .ok (.aload_n 0, 1) := by decide +kernel
theorem dX10_marries_54 : decode cX10_marries 54 = .ok (.iload_n 1, 1) := by decide +kernel
theorem dX10_marries_55 : decode cX10_marries 55 = .ok (.iload_n 2, 1) := by decide +kernel
theorem dX10_marries_56 : decode cX10_marries 56 = .ok (.invokevirtual 110, 3) := by decide +kernel
theorem dX10_marries_59 : decode cX10_marries 59 = .ok (.aload_n 0, 1) := by decide +kernel
theorem dX10_marries_60 : decode cX10_marries 60 = .ok (.iload_n 1, 1) := by decide +kernel
theorem dX10_marries_61 : decode cX10_marries 61 = .ok (.invokevirtual 70, 3) := by decide +kernel
theorem dX10_marries_64 : decode cX10_marries 64 = .ok (.ireturn, 1) := by decide +kernel
theorem dX10_parts_0 : decode cX10_parts 0 = .ok (.aload_n 0, 1) := by decide +kernel
theorem dX10_parts_1 : decode cX10_parts 1 = .ok (.iload_n 1, 1) := by decide +kernel
theorem dX10_parts_2 : decode cX10_parts 2 = .ok (.invokevirtual 99, 3) := by decide +kernel
theorem dX10_parts_5 : decode cX10_parts 5 = .ok (.ifCond .ne 10, 3) := by decide +kernel
theorem dX10_parts_8 : decode cX10_parts 8 = .ok (.aload_n 0, 1) := by decide +kernel
theorem dX10_parts_9 : decode cX10_parts 9 = .ok (.ldc 90, 2) := by decide +kernel
theorem dX10_parts_11 : decode cX10_parts 11 = .ok (.invokevirtual 91, 3) := by decide +kernel
theorem dX10_parts_14 : decode cX10_parts 14 = .ok (.ireturn, 1) := by decide +kernel
theorem dX10_parts_15 : decode cX10_parts 15 = .ok (.aload_n 0, 1) := by decide +kernel
theorem dX10_parts_16 : decode cX10_parts 16 = .ok (.iload_n 1, 1) := by decide +kernel
theorem dX10_parts_17 : decode cX10_parts 17 = .ok (.iconst 3, 1) := by decide +kernel
theorem dX10_parts_18 : decode cX10_parts 18 = .ok (.invokevirtual 55, 3) := by decide +kernel
theorem dX10_parts_21 : decode cX10_parts 21 = .ok (.istore_n 2, 1) := by decide +kernel
theorem dX10_parts_22 : decode cX10_parts 22 = .ok (.iload_n 2, 1) := by decide +kernel
theorem dX10_parts_23 : decode cX10_parts 23 = .ok (.ifCond .ge 10, 3) := by decide +kernel
theorem dX10_parts_26 : decode cX10_parts 26 = .ok (.aload_n 0, 1) := by decide +kernel
theorem dX10_parts_27 : decode cX10_parts 27 = .ok (.ldc 114, 2) := by decide +kernel
theorem dX10_parts_29 : decode cX10_parts 29 = .ok (.invokevirtual 91, 3) := by decide +kernel
theorem dX10_parts_32 : decode cX10_parts 32 = .ok (.ireturn, 1) := by decide +kernel
theorem dX10_parts_33 : decode cX10_parts 33 = .ok (.aload_n 0, 1) := by decide +kernel
theorem dX10_parts_34 : decode cX10_parts 34 = .ok (.iload_n 1, 1) := by decide +kernel
theorem dX10_parts_35 : decode cX10_parts 35 = .ok (.iconst 3, 1) := by decide +kernel
theorem dX10_parts_36 : decode cX10_parts 36 = .ok (.iconst (-1), 1) := by decide +kernel
theorem dX10_parts_37 : decode cX10_parts 37 = .ok (.invokevirtual 95, 3) := by decide +kernel
theorem dX10_parts_40 : decode cX10_parts 40 = .ok (.aload_n 0, 1) := by decide +kernel
theorem dX10_parts_41 : decode cX10_parts 41 = .ok (.iload_n 2, 1) := by decide +kernel
theorem dX10_parts_42 : decode cX10_parts 42 = .ok (.iconst 3, 1) := by decide +kernel
theorem dX10_parts_43 : decode cX10_parts 43 = .ok (.iconst (-1), 1) := by decide +kernel
theorem dX10_parts_44 : decode cX10_parts 44 = .ok (.invokevirtual 95, 3) := by decide +kernel
theorem dX10_parts_47 : decode cX10_parts 47 = .ok (.iload_n 2, 1) := by decide +kernel
theorem dX10_parts_48 : decode cX10_parts 48 = .ok (.ireturn, 1) := by decide +kernel
theorem dX10_steps_0 : decode cX10_steps 0 = .ok (.aload_n 0, 1) := by decide +kernel
theorem dX10_steps_1 : decode cX10_steps 1 = .ok (.iload_n 1, 1) := by decide +kernel
theorem dX10_steps_2 : decode cX10_steps 2 = .ok (.invokevirtual 99, 3) := by decide +kernel
theorem dX10_steps_5 : decode cX10_steps 5 = .ok (.ifCond .eq 20, 3) := by decide +kernel
theorem dX10_steps_8 : decode cX10_steps 8 = .ok (.aload_n 0, 1) := by decide +kernel
theorem dX10_steps_9 : decode cX10_steps 9 = .ok (.iload_n 2, 1) := by decide +kernel
theorem dX10_steps_10 : decode cX10_steps 10 = .ok (.invokevirtual 99, 3) := by decide +kernel
theorem dX10_steps_13 : decode cX10_steps 13 = .ok (.ifCond .eq 12, 3) := by decide +kernel
theorem dX10_steps_16 : decode cX10_steps 16 = .ok (.aload_n 0, 1) := by decide +kernel
theorem dX10_steps_17 : decode cX10_steps 17 = .ok (.iload_n 1, 1) := by decide +kernel
theorem dX10_steps_18 : decode cX10_steps 18 = .ok (.iload_n 2, 1) := by decide +kernel
theorem dX10_steps_19 : decode cX10_steps 19 = .ok (.invokevirtual 73, 3) := by decide +kernel
theorem dX10_steps_22 : decode cX10_steps 22 = .ok (.goto 9, 3) := by decide +kernel
theorem dX10_steps_25 : decode cX10_steps 25 = .ok (.aload_n 0, 1) := by decide +kernel
theorem dX10_steps_26 : decode cX10_steps 26 = .ok (.ldc 90, 2) := by decide +kernel
theorem dX10_steps_28 : decode cX10_steps 28 = .ok (.invokevirtual 91, 3) := by decide +kernel
theorem dX10_steps_31 : decode cX10_steps 31 = .ok (.ireturn, 1) := by decide +kernel
theorem dX10_lets_0 : decode cX10_lets 0 = .ok (.aload_n 0, 1) := by decide +kernel
theorem dX10_lets_1 : decode cX10_lets 1 = .ok (.iload_n 1, 1) := by decide +kernel
theorem dX10_lets_2 : decode cX10_lets 2 = .ok (.invokevirtual 99, 3) := by decide +kernel
theorem dX10_lets_5 : decode cX10_lets 5 = .ok (.ifCond .eq 20, 3) := by decide +kernel
theorem dX10_lets_8 : decode cX10_lets 8 = .ok (.aload_n 0, 1) := by decide +kernel
theorem dX10_lets_9 : decode cX10_lets 9 = .ok (.iload_n 2, 1) := by decide +kernel
theorem dX10_lets_10 : decode cX10_lets 10 = .ok (.invokevirtual 99, 3) := by decide +kernel
theorem dX10_lets_13 : decode cX10_lets 13 = .ok (.ifCond .eq 12, 3) := by decide +kernel
theorem dX10_lets_16 : decode cX10_lets 16 = .ok (.aload_n 0, 1) := by decide +kernel
theorem dX10_lets_17 : decode cX10_lets 17 = .ok (.iload_n 1, 1) := by decide +kernel
theorem dX10_lets_18 : decode cX10_lets 18 = .ok (.iload_n 2, 1) := by decide +kernel
theorem dX10_lets_19 : decode cX10_lets 19 = .ok (.invokevirtual 115, 3) := by decide +kernel
theorem dX10_lets_22 : decode cX10_lets 22 = .ok (.goto 9, 3) := by decide +kernel
theorem dX10_lets_25 : decode cX10_lets 25 = .ok (.aload_n 0, 1) := by decide +kernel
theorem dX10_lets_26 : decode cX10_lets 26 = .ok (.ldc 90, 2) := by decide +kernel
theorem dX10_lets_28 : decode cX10_lets 28 = .ok (.invokevirtual 91, 3) := by decide +kernel
theorem dX10_lets_31 : decode cX10_lets 31 = .ok (.ireturn, 1) := by decide +kernel
theorem dX10_meets_0 : decode cX10_meets 0 = .ok (.iload_n 1, 1) := by decide +kernel
theorem dX10_meets_1 : decode cX10_meets 1 = .ok (.iconst 0, 1) := by decide +kernel
theorem dX10_meets_2 : decode cX10_meets 2 = .ok (.iconst 5, 1) := by decide +kernel
theorem dX10_meets_3 : decode cX10_meets 3 = .ok (.invokestatic 51, 3) := by decide +kernel
theorem dX10_meets_6 : decode cX10_meets 6 = .ok (.ifCond .eq 23, 3) := by decide +kernel
theorem dX10_meets_9 : decode cX10_meets 9 = .ok (.iload_n 2, 1) := by decide +kernel
theorem dX10_meets_10 : decode cX10_meets 10 = .ok (.iconst 0, 1) := by decide +kernel
theorem dX10_meets_11 : decode cX10_meets 11 = .ok (.bipush 7, 2) := by decide +kernel
theorem dX10_meets_13 : decode cX10_meets 13 = .ok (.invokestatic 51, 3) := by decide +kernel
theorem dX10_meets_16 : decode cX10_meets 16 = .ok (.ifCond .eq 13, 3) := by decide +kernel
theorem dX10_meets_19 : decode cX10_meets 19 = .ok (.iload_n 3, 1) := by decide +kernel
theorem dX10_meets_20 : decode cX10_meets 20 = .ok (.iconst 0, 1) := by decide +kernel
theorem dX10_meets_21 : decode cX10_meets 21 = .ok (.bipush 7, 2) := by decide +kernel
theorem dX10_meets_23 : decode cX10_meets 23 = .ok (.invokestatic 51, 3) := by decide +kernel
theorem dX10_meets_26 : decode cX10_meets 26 = .ok (.ifCond .ne 10, 3) := by decide +kernel
theorem dX10_meets_29 : decode cX10_meets 29 = .ok (.aload_n 0, 1) := by decide +kernel
theorem dX10_meets_30 : decode cX10_meets 30 = .ok (.ldc 90, 2) := by decide +kernel
theorem dX10_meets_32 : decode cX10_meets 32 = .ok (.invokevirtual 91, 3) := by decide +kernel
theorem dX10_meets_35 : decode cX10_meets 35 = .ok (.ireturn, 1) := by decide +kernel
theorem dX10_meets_36 : decode cX10_meets 36 = .ok (.bipush 10, 2) := by decide +kernel
theorem dX10_meets_38 : decode cX10_meets 38 = .ok (.aload_n 0, 1) := by decide +kernel
theorem dX10_meets_39 : decode cX10_meets 39 = .ok (.getfield 9, 3) := by decide +kernel
theorem dX10_meets_42 : decode cX10_meets 42 = .ok (.bipush 7, 2) := by decide +kernel
theorem dX10_meets_44 : decode cX10_meets 44 = .ok (.iconst 2, 1) := by decide +kernel
theorem dX10_meets_45 : decode cX10_meets 45 = .ok (.iload_n 1, 1) := by decide +kernel
theorem dX10_meets_46 : decode cX10_meets 46 = .ok (.imul, 1) := by decide +kernel
theorem dX10_meets_47 : decode cX10_meets 47 = .ok (.iadd, 1) := by decide +kernel
theorem dX10_meets_48 : decode cX10_meets 48 = .ok (.iaload, 1) := by decide +kernel
theorem dX10_meets_49 : decode cX10_meets 49 = .ok (.imul, 1) := by decide +kernel
theorem dX10_meets_50 : decode cX10_meets 50 = .ok (.aload_n 0, 1) := by decide +kernel
theorem dX10_meets_51 : decode cX10_meets 51 = .ok (.getfield 9, 3) := by decide +kernel
theorem dX10_meets_54 : decode cX10_meets 54 = .ok (.bipush 7, 2) := by decide +kernel
theorem dX10_meets_56 : decode cX10_meets 56 = .ok (.iconst 2, 1) := by decide +kernel
theorem dX10_meets_57 : decode cX10_meets 57 = .ok (.iload_n 1, 1) := by decide +kernel
theorem dX10_meets_58 : decode cX10_meets 58 = .ok (.imul, 1) := by decide +kernel
theorem dX10_meets_59 : decode cX10_meets 59 = .ok (.iadd, 1) := by decide +kernel
theorem dX10_meets_60 : decode cX10_meets 60 = .ok (.iconst 1, 1) := by decide +kernel
theorem dX10_meets_61 : decode cX10_meets 61 = .ok (.iadd, 1) := by decide +kernel
theorem dX10_meets_62 : decode cX10_meets 62 = .ok (.iaload, 1) := by decide +kernel
theorem dX10_meets_63 : decode cX10_meets 63 = .ok (.iadd, 1) := by decide +kernel
theorem dX10_meets_64 : decode cX10_meets 64 = .ok (.istore 4, 2) := by decide +kernel
theorem dX10_meets_66 : decode cX10_meets 66 = .ok (.aload_n 0, 1) := by decide +kernel
theorem dX10_meets_67 : decode cX10_meets 67 = .ok (.getfield 9, 3) := by decide +kernel
theorem dX10_meets_70 : decode cX10_meets 70 = .ok (.bipush 7, 2) := by decide +kernel
theorem dX10_meets_72 : decode cX10_meets 72 = .ok (.iconst 2, 1) := by decide +kernel
theorem dX10_meets_73 : decode cX10_meets 73 = .ok (.iload_n 1, 1) := by decide +kernel
theorem dX10_meets_74 : decode cX10_meets 74 = .ok (.imul, 1) := by decide +kernel
theorem dX10_meets_75 : decode cX10_meets 75 = .ok (.iadd, 1) := by decide +kernel
theorem dX10_meets_76 : decode cX10_meets 76 = .ok (.iload_n 2, 1) := by decide +kernel
theorem dX10_meets_77 : decode cX10_meets 77 = .ok (.iastore, 1) := by decide +kernel
theorem dX10_meets_78 : decode cX10_meets 78 = .ok (.aload_n 0, 1) := by decide +kernel
theorem dX10_meets_79 : decode cX10_meets 79 = .ok (.getfield 9, 3) := by decide +kernel
theorem dX10_meets_82 : decode cX10_meets 82 = .ok (.bipush 7, 2) := by decide +kernel
theorem dX10_meets_84 : decode cX10_meets 84 = .ok (.iconst 2, 1) := by decide +kernel
theorem dX10_meets_85 : decode cX10_meets 85 = .ok (.iload_n 1, 1) := by decide +kernel
theorem dX10_meets_86 : decode cX10_meets 86 = .ok (.imul, 1) := by decide +kernel
theorem dX10_meets_87 : decode cX10_meets 87 = .ok (.iadd, 1) := by decide +kernel
theorem dX10_meets_88 : decode cX10_meets 88 = .ok (.iconst 1, 1) := by decide +kernel
theorem dX10_meets_89 : decode cX10_meets 89 = .ok (.iadd, 1) := by decide +kernel
theorem dX10_meets_90 : decode cX10_meets 90 = .ok (.iload_n 3, 1) := by decide +kernel
theorem dX10_meets_91 : decode cX10_meets 91 = .ok (.iastore, 1) := by decide +kernel
theorem dX10_meets_92 : decode cX10_meets 92 = .ok (.iload 4, 2) := by decide +kernel
theorem dX10_meets_94 : decode cX10_meets 94 = .ok (.ireturn, 1) := by decide +kernel
theorem dX10_trade_0 : decode cX10_trade 0 = .ok (.iload_n 1, 1) := by decide +kernel
theorem dX10_trade_1 : decode cX10_trade 1 = .ok (.iconst 0, 1) := by decide +kernel
theorem dX10_trade_2 : decode cX10_trade 2 = .ok (.iconst 1, 1) := by decide +kernel
theorem dX10_trade_3 : decode cX10_trade 3 = .ok (.invokestatic 51, 3) := by decide +kernel
theorem dX10_trade_6 : decode cX10_trade 6 = .ok (.ifCond .eq 34, 3) := by decide +kernel
theorem dX10_trade_9 : decode cX10_trade 9 = .ok (.iload_n 2, 1) := by decide +kernel
theorem dX10_trade_10 : decode cX10_trade 10 = .ok (.iconst 0, 1) := by decide +kernel
theorem dX10_trade_11 : decode cX10_trade 11 = .ok (.iload_n 1, 1) := by decide +kernel
theorem dX10_trade_12 : decode cX10_trade 12 = .ok (.ifCond .ne 9, 3) := by decide +kernel
theorem dX10_trade_15 : decode cX10_trade 15 = .ok (.sipush 999, 3) := by decide +kernel
theorem dX10_trade_18 : decode cX10_trade 18 = .ok (.goto 5, 3) := by decide +kernel
theorem dX10_trade_21 : decode cX10_trade 21 = .ok (.bipush 40, 2) := by decide +kernel
theorem dX10_trade_23 : decode cX10_trade 23 = .ok (.invokestatic 51, 3) := by decide +kernel
theorem dX10_trade_26 : decode cX10_trade 26 = .ok (.ifCond .eq 14, 3) := by decide +kernel
theorem dX10_trade_29 : decode cX10_trade 29 = .ok (.aload_n 0, 1) := by decide +kernel
theorem dX10_trade_30 : decode cX10_trade 30 = .ok (.iconst 3, 1) := by decide +kernel
theorem dX10_trade_31 : decode cX10_trade 31 = .ok (.iload_n 1, 1) := by decide +kernel
theorem dX10_trade_32 : decode cX10_trade 32 = .ok (.iadd, 1) := by decide +kernel
theorem dX10_trade_33 : decode cX10_trade 33 = .ok (.iload_n 2, 1) := by decide +kernel
theorem dX10_trade_34 : decode cX10_trade 34 = .ok (.invokevirtual 105, 3) := by decide +kernel
theorem dX10_trade_37 : decode cX10_trade 37 = .ok (.goto 9, 3) := by decide +kernel
theorem dX10_trade_40 : decode cX10_trade 40 = .ok (.aload_n 0, 1) := by decide +kernel
theorem dX10_trade_41 : decode cX10_trade 41 = .ok (.ldc 90, 2) := by decide +kernel
theorem dX10_trade_43 : decode cX10_trade 43 = .ok (.invokevirtual 91, 3) := by decide +kernel
theorem dX10_trade_46 : decode cX10_trade 46 = .ok (.ireturn, 1) := by decide +kernel
theorem dX10_feed_0 : decode cX10_feed 0 = .ok (.iload_n 3, 1) := by decide +kernel
theorem dX10_feed_1 : decode cX10_feed 1 = .ok (.iconst 1, 1) := by decide +kernel
theorem dX10_feed_2 : decode cX10_feed 2 = .ok (.bipush 8, 2) := by decide +kernel
theorem dX10_feed_4 : decode cX10_feed 4 = .ok (.invokestatic 51, 3) := by decide +kernel
theorem dX10_feed_7 : decode cX10_feed 7 = .ok (.ifCond .ne 10, 3) := by decide +kernel
theorem dX10_feed_10 : decode cX10_feed 10 = .ok (.aload_n 0, 1) := by decide +kernel
theorem dX10_feed_11 : decode cX10_feed 11 = .ok (.ldc 90, 2) := by decide +kernel
theorem dX10_feed_13 : decode cX10_feed 13 = .ok (.invokevirtual 91, 3) := by decide +kernel
theorem dX10_feed_16 : decode cX10_feed 16 = .ok (.ireturn, 1) := by decide +kernel
theorem dX10_feed_17 : decode cX10_feed 17 = .ok (.aload_n 0, 1) := by decide +kernel
theorem dX10_feed_18 : decode cX10_feed 18 = .ok (.getfield 9, 3) := by decide +kernel
theorem dX10_feed_21 : decode cX10_feed 21 = .ok (.iconst 5, 1) := by decide +kernel
theorem dX10_feed_22 : decode cX10_feed 22 = .ok (.iaload, 1) := by decide +kernel
theorem dX10_feed_23 : decode cX10_feed 23 = .ok (.iload_n 3, 1) := by decide +kernel
theorem dX10_feed_24 : decode cX10_feed 24 = .ok (.iadd, 1) := by decide +kernel
theorem dX10_feed_25 : decode cX10_feed 25 = .ok (.bipush 60, 2) := by decide +kernel
theorem dX10_feed_27 : decode cX10_feed 27 = .ok (.if_icmp .le 10, 3) := by decide +kernel
theorem dX10_feed_30 : decode cX10_feed 30 = .ok (.aload_n 0, 1) := by decide +kernel
theorem dX10_feed_31 : decode cX10_feed 31 = .ok (.ldc 94, 2) := by decide +kernel
theorem dX10_feed_33 : decode cX10_feed 33 = .ok (.invokevirtual 91, 3) := by decide +kernel
theorem dX10_feed_36 : decode cX10_feed 36 = .ok (.ireturn, 1) := by decide +kernel
theorem dX10_feed_37 : decode cX10_feed 37 = .ok (.iconst 0, 1) := by decide +kernel
theorem dX10_feed_38 : decode cX10_feed 38 = .ok (.istore 4, 2) := by decide +kernel
theorem dX10_feed_40 : decode cX10_feed 40 = .ok (.iload 4, 2) := by decide +kernel
theorem dX10_feed_42 : decode cX10_feed 42 = .ok (.iload_n 3, 1) := by decide +kernel
theorem dX10_feed_43 : decode cX10_feed 43 = .ok (.if_icmp .ge 45, 3) := by decide +kernel
theorem dX10_feed_46 : decode cX10_feed 46 = .ok (.aload_n 0, 1) := by decide +kernel
theorem dX10_feed_47 : decode cX10_feed 47 = .ok (.getfield 9, 3) := by decide +kernel
theorem dX10_feed_50 : decode cX10_feed 50 = .ok (.bipush 59, 2) := by decide +kernel
theorem dX10_feed_52 : decode cX10_feed 52 = .ok (.aload_n 0, 1) := by decide +kernel
theorem dX10_feed_53 : decode cX10_feed 53 = .ok (.getfield 9, 3) := by decide +kernel
theorem dX10_feed_56 : decode cX10_feed 56 = .ok (.iconst 5, 1) := by decide +kernel
theorem dX10_feed_57 : decode cX10_feed 57 = .ok (.iaload, 1) := by decide +kernel
theorem dX10_feed_58 : decode cX10_feed 58 = .ok (.iadd, 1) := by decide +kernel
theorem dX10_feed_59 : decode cX10_feed 59 = .ok (.lload_n 1, 1) := by decide +kernel
theorem dX10_feed_60 : decode cX10_feed 60 = .ok (.bipush 8, 2) := by decide +kernel
theorem dX10_feed_62 : decode cX10_feed 62 = .ok (.iload 4, 2) := by decide +kernel
theorem dX10_feed_64 : decode cX10_feed 64 = .ok (.imul, 1) := by decide +kernel
theorem dX10_feed_65 : decode cX10_feed 65 = .ok (.lshr, 1) := by decide +kernel
theorem dX10_feed_66 : decode cX10_feed 66 = .ok (.ldc2_w 118, 3) := by decide +kernel
theorem dX10_feed_69 : decode cX10_feed 69 = .ok (.land, 1) := by decide +kernel
theorem dX10_feed_70 : decode cX10_feed 70 = .ok (.l2i, 1) := by decide +kernel
theorem dX10_feed_71 : decode cX10_feed 71 = .ok (.iastore, 1) := by decide +kernel
theorem dX10_feed_72 : decode cX10_feed 72 = .ok (.aload_n 0, 1) := by decide +kernel
theorem dX10_feed_73 : decode cX10_feed 73 = .ok (.getfield 9, 3) := by decide +kernel
theorem dX10_feed_76 : decode cX10_feed 76 = .ok (.iconst 5, 1) := by decide +kernel
theorem dX10_feed_77 : decode cX10_feed 77 = .ok (.dup2, 1) := by decide +kernel
theorem dX10_feed_78 : decode cX10_feed 78 = .ok (.iaload, 1) := by decide +kernel
theorem dX10_feed_79 : decode cX10_feed 79 = .ok (.iconst 1, 1) := by decide +kernel
theorem dX10_feed_80 : decode cX10_feed 80 = .ok (.iadd, 1) := by decide +kernel
theorem dX10_feed_81 : decode cX10_feed 81 = .ok (.iastore, 1) := by decide +kernel
theorem dX10_feed_82 : decode cX10_feed 82 = .ok (.iinc 4 1, 3) := by decide +kernel
theorem dX10_feed_85 : decode cX10_feed 85 = .ok (.goto (-45), 3) := by decide +kernel
theorem dX10_feed_88 : decode cX10_feed 88 = .ok (.aload_n 0, 1) := by decide +kernel
theorem dX10_feed_89 : decode cX10_feed 89 = .ok (.getfield 9, 3) := by decide +kernel
theorem dX10_feed_92 : decode cX10_feed 92 = .ok (.iconst 5, 1) := by decide +kernel
theorem dX10_feed_93 : decode cX10_feed 93 = .ok (.iaload, 1) := by decide +kernel
theorem dX10_feed_94 : decode cX10_feed 94 = .ok (.ireturn, 1) := by decide +kernel
theorem dX10_look_0 : decode cX10_look 0 = .ok (.aload_n 0, 1) := by decide +kernel
theorem dX10_look_1 : decode cX10_look 1 = .ok (.getfield 120, 3) := by decide +kernel
theorem dX10_look_4 : decode cX10_look 4 = .ok (.aload_n 0, 1) := by decide +kernel
theorem dX10_look_5 : decode cX10_look 5 = .ok (.getfield 9, 3) := by decide +kernel
theorem dX10_look_8 : decode cX10_look 8 = .ok (.iconst 5, 1) := by decide +kernel
theorem dX10_look_9 : decode cX10_look 9 = .ok (.iaload, 1) := by decide +kernel
theorem dX10_look_10 : decode cX10_look 10 = .ok (.if_icmp .ge 18, 3) := by decide +kernel
theorem dX10_look_13 : decode cX10_look 13 = .ok (.aload_n 0, 1) := by decide +kernel
theorem dX10_look_14 : decode cX10_look 14 = .ok (.getfield 9, 3) := by decide +kernel
theorem dX10_look_17 : decode cX10_look 17 = .ok (.bipush 59, 2) := by decide +kernel
theorem dX10_look_19 : decode cX10_look 19 = .ok (.aload_n 0, 1) := by decide +kernel
theorem dX10_look_20 : decode cX10_look 20 = .ok (.getfield 120, 3) := by decide +kernel
theorem dX10_look_23 : decode cX10_look 23 = .ok (.iadd, 1) := by decide +kernel
theorem dX10_look_24 : decode cX10_look 24 = .ok (.iaload, 1) := by decide +kernel
theorem dX10_look_25 : decode cX10_look 25 = .ok (.goto 4, 3) := by decide +kernel
theorem dX10_look_28 : decode cX10_look 28 = .ok (.iconst (-1), 1) := by decide +kernel
theorem dX10_look_29 : decode cX10_look 29 = .ok (.ireturn, 1) := by decide +kernel
theorem dX10_lays_0 : decode cX10_lays 0 = .ok (.aload_n 0, 1) := by decide +kernel
theorem dX10_lays_1 : decode cX10_lays 1 = .ok (.getfield 124, 3) := by decide +kernel
theorem dX10_lays_4 : decode cX10_lays 4 = .ok (.aload_n 0, 1) := by decide +kernel
theorem dX10_lays_5 : decode cX10_lays 5 = .ok (.getfield 31, 3) := by decide +kernel
theorem dX10_lays_8 : decode cX10_lays 8 = .ok (.arraylength, 1) := by decide +kernel
theorem dX10_lays_9 : decode cX10_lays 9 = .ok (.if_icmp .ge 33, 3) := by decide +kernel
theorem dX10_lays_12 : decode cX10_lays 12 = .ok (.aload_n 0, 1) := by decide +kernel
theorem dX10_lays_13 : decode cX10_lays 13 = .ok (.getfield 31, 3) := by decide +kernel
theorem dX10_lays_16 : decode cX10_lays 16 = .ok (.aload_n 0, 1) := by decide +kernel
theorem dX10_lays_17 : decode cX10_lays 17 = .ok (.getfield 124, 3) := by decide +kernel
theorem dX10_lays_20 : decode cX10_lays 20 = .ok (.iload_n 1, 1) := by decide +kernel
theorem dX10_lays_21 : decode cX10_lays 21 = .ok (.iastore, 1) := by decide +kernel
theorem dX10_lays_22 : decode cX10_lays 22 = .ok (.aload_n 0, 1) := by decide +kernel
theorem dX10_lays_23 : decode cX10_lays 23 = .ok (.getfield 34, 3) := by decide +kernel
theorem dX10_lays_26 : decode cX10_lays 26 = .ok (.aload_n 0, 1) := by decide +kernel
theorem dX10_lays_27 : decode cX10_lays 27 = .ok (.getfield 124, 3) := by decide +kernel
theorem dX10_lays_30 : decode cX10_lays 30 = .ok (.iload_n 2, 1) := by decide +kernel
theorem dX10_lays_31 : decode cX10_lays 31 = .ok (.iastore, 1) := by decide +kernel
theorem dX10_lays_32 : decode cX10_lays 32 = .ok (.aload_n 0, 1) := by decide +kernel
theorem dX10_lays_33 : decode cX10_lays 33 = .ok (.dup, 1) := by decide +kernel
theorem dX10_lays_34 : decode cX10_lays 34 = .ok (.getfield 124, 3) := by decide +kernel
theorem dX10_lays_37 : decode cX10_lays 37 = .ok (.iconst 1, 1) := by decide +kernel
theorem dX10_lays_38 : decode cX10_lays 38 = .ok (.iadd, 1) := by decide +kernel
theorem dX10_lays_39 : decode cX10_lays 39 = .ok (.putfield 124, 3) := by decide +kernel
theorem dX10_lays_42 : decode cX10_lays 42 = .ok (.return_, 1) := by decide +kernel
theorem dX10_nameOf_0 : decode cX10_nameOf 0 = .ok (.iload_n 1, 1) := by decide +kernel
theorem dX10_nameOf_1 : decode cX10_nameOf 1 = .ok (.lookupswitch 111 #[(99, 74), (101, 74), (115, 51), (118, 51), (121, 98)], 51) := by decide +kernel
theorem dX10_nameOf_52 : decode cX10_nameOf 52 = .ok (.aload_n 0, 1) := by decide +kernel
theorem dX10_nameOf_53 : decode cX10_nameOf 53 = .ok (.getfield 127, 3) := by decide +kernel
theorem dX10_nameOf_56 : decode cX10_nameOf 56 = .ok (.ifCond .eq 7, 3) := by decide +kernel
theorem dX10_nameOf_59 : decode cX10_nameOf 59 = .ok (.iconst (-1), 1) := by decide +kernel
theorem dX10_nameOf_60 : decode cX10_nameOf 60 = .ok (.goto 14, 3) := by decide +kernel
theorem dX10_nameOf_63 : decode cX10_nameOf 63 = .ok (.iload_n 1, 1) := by decide +kernel
theorem dX10_nameOf_64 : decode cX10_nameOf 64 = .ok (.bipush 118, 2) := by decide +kernel
theorem dX10_nameOf_66 : decode cX10_nameOf 66 = .ok (.if_icmp .ne 7, 3) := by decide +kernel
theorem dX10_nameOf_69 : decode cX10_nameOf 69 = .ok (.iconst 0, 1) := by decide +kernel
theorem dX10_nameOf_70 : decode cX10_nameOf 70 = .ok (.goto 4, 3) := by decide +kernel
theorem dX10_nameOf_73 : decode cX10_nameOf 73 = .ok (.iconst 1, 1) := by decide +kernel
theorem dX10_nameOf_74 : decode cX10_nameOf 74 = .ok (.ireturn, 1) := by decide +kernel
theorem dX10_nameOf_75 : decode cX10_nameOf 75 = .ok (.aload_n 0, 1) := by decide +kernel
theorem dX10_nameOf_76 : decode cX10_nameOf 76 = .ok (.getfield 127, 3) := by decide +kernel
theorem dX10_nameOf_79 : decode cX10_nameOf 79 = .ok (.iconst 1, 1) := by decide +kernel
theorem dX10_nameOf_80 : decode cX10_nameOf 80 = .ok (.if_icmp .eq 7, 3) := by decide +kernel
theorem dX10_nameOf_83 : decode cX10_nameOf 83 = .ok (.iconst (-1), 1) := by decide +kernel
theorem dX10_nameOf_84 : decode cX10_nameOf 84 = .ok (.goto 14, 3) := by decide +kernel
theorem dX10_nameOf_87 : decode cX10_nameOf 87 = .ok (.iload_n 1, 1) := by decide +kernel
theorem dX10_nameOf_88 : decode cX10_nameOf 88 = .ok (.bipush 101, 2) := by decide +kernel
theorem dX10_nameOf_90 : decode cX10_nameOf 90 = .ok (.if_icmp .ne 7, 3) := by decide +kernel
theorem dX10_nameOf_93 : decode cX10_nameOf 93 = .ok (.iconst 0, 1) := by decide +kernel
theorem dX10_nameOf_94 : decode cX10_nameOf 94 = .ok (.goto 4, 3) := by decide +kernel
theorem dX10_nameOf_97 : decode cX10_nameOf 97 = .ok (.iconst 2, 1) := by decide +kernel
theorem dX10_nameOf_98 : decode cX10_nameOf 98 = .ok (.ireturn, 1) := by decide +kernel
theorem dX10_nameOf_99 : decode cX10_nameOf 99 = .ok (.aload_n 0, 1) := by decide +kernel
theorem dX10_nameOf_100 : decode cX10_nameOf 100 = .ok (.getfield 127, 3) := by decide +kernel
theorem dX10_nameOf_103 : decode cX10_nameOf 103 = .ok (.ifCond .ne 7, 3) := by decide +kernel
theorem dX10_nameOf_106 : decode cX10_nameOf 106 = .ok (.iconst 2, 1) := by decide +kernel
theorem dX10_nameOf_107 : decode cX10_nameOf 107 = .ok (.goto 4, 3) := by decide +kernel
theorem dX10_nameOf_110 : decode cX10_nameOf 110 = .ok (.iconst 1, 1) := by decide +kernel
theorem dX10_nameOf_111 : decode cX10_nameOf 111 = .ok (.ireturn, 1) := by decide +kernel
theorem dX10_nameOf_112 : decode cX10_nameOf 112 = .ok (.iconst (-1), 1) := by decide +kernel
theorem dX10_nameOf_113 : decode cX10_nameOf 113 = .ok (.ireturn, 1) := by decide +kernel
theorem dX10_number_0 : decode cX10_number 0 = .ok (.iconst 0, 1) := by decide +kernel
theorem dX10_number_1 : decode cX10_number 1 = .ok (.istore_n 1, 1) := by decide +kernel
theorem dX10_number_2 : decode cX10_number 2 = .ok (.iconst 0, 1) := by decide +kernel
theorem dX10_number_3 : decode cX10_number 3 = .ok (.istore_n 2, 1) := by decide +kernel
theorem dX10_number_4 : decode cX10_number 4 = .ok (.iload_n 2, 1) := by decide +kernel
theorem dX10_number_5 : decode cX10_number 5 = .ok (.iconst 4, 1) := by decide +kernel
theorem dX10_number_6 : decode cX10_number 6 = .ok (.if_icmp .ge 46, 3) := by decide +kernel
theorem dX10_number_9 : decode cX10_number 9 = .ok (.aload_n 0, 1) := by decide +kernel
theorem dX10_number_10 : decode cX10_number 10 = .ok (.invokevirtual 130, 3) := by decide +kernel
theorem dX10_number_13 : decode cX10_number 13 = .ok (.bipush 48, 2) := by decide +kernel
theorem dX10_number_15 : decode cX10_number 15 = .ok (.bipush 57, 2) := by decide +kernel
theorem dX10_number_17 : decode cX10_number 17 = .ok (.invokestatic 51, 3) := by decide +kernel
theorem dX10_number_20 : decode cX10_number 20 = .ok (.ifCond .eq 32, 3) := by decide +kernel
theorem dX10_number_23 : decode cX10_number 23 = .ok (.bipush 10, 2) := by decide +kernel
theorem dX10_number_25 : decode cX10_number 25 = .ok (.iload_n 1, 1) := by decide +kernel
theorem dX10_number_26 : decode cX10_number 26 = .ok (.imul, 1) := by decide +kernel
theorem dX10_number_27 : decode cX10_number 27 = .ok (.aload_n 0, 1) := by decide +kernel
theorem dX10_number_28 : decode cX10_number 28 = .ok (.invokevirtual 130, 3) := by decide +kernel
theorem dX10_number_31 : decode cX10_number 31 = .ok (.iadd, 1) := by decide +kernel
theorem dX10_number_32 : decode cX10_number 32 = .ok (.bipush 48, 2) := by decide +kernel
theorem dX10_number_34 : decode cX10_number 34 = .ok (.isub, 1) := by decide +kernel
theorem dX10_number_35 : decode cX10_number 35 = .ok (.istore_n 1, 1) := by decide +kernel
theorem dX10_number_36 : decode cX10_number 36 = .ok (.aload_n 0, 1) := by decide +kernel
theorem dX10_number_37 : decode cX10_number 37 = .ok (.dup, 1) := by decide +kernel
theorem dX10_number_38 : decode cX10_number 38 = .ok (.getfield 120, 3) := by decide +kernel
theorem dX10_number_41 : decode cX10_number 41 = .ok (.iconst 1, 1) := by decide +kernel
theorem dX10_number_42 : decode cX10_number 42 = .ok (.iadd, 1) := by decide +kernel
theorem dX10_number_43 : decode cX10_number 43 = .ok (.putfield 120, 3) := by decide +kernel
theorem dX10_number_46 : decode cX10_number 46 = .ok (.iinc 2 1, 3) := by decide +kernel
theorem dX10_number_49 : decode cX10_number 49 = .ok (.goto (-45), 3) := by decide +kernel
theorem dX10_number_52 : decode cX10_number 52 = .ok (.aload_n 0, 1) := by decide +kernel
theorem dX10_number_53 : decode cX10_number 53 = .ok (.iload_n 2, 1) := by decide +kernel
theorem dX10_number_54 : decode cX10_number 54 = .ok (.ifCond .ne 7, 3) := by decide +kernel
theorem dX10_number_57 : decode cX10_number 57 = .ok (.iconst 1, 1) := by decide +kernel
theorem dX10_number_58 : decode cX10_number 58 = .ok (.goto 4, 3) := by decide +kernel
theorem dX10_number_61 : decode cX10_number 61 = .ok (.iconst 0, 1) := by decide +kernel
theorem dX10_number_62 : decode cX10_number 62 = .ok (.putfield 134, 3) := by decide +kernel
theorem dX10_number_65 : decode cX10_number 65 = .ok (.aload_n 0, 1) := by decide +kernel
theorem dX10_number_66 : decode cX10_number 66 = .ok (.iconst 1, 1) := by decide +kernel
theorem dX10_number_67 : decode cX10_number 67 = .ok (.iload_n 1, 1) := by decide +kernel
theorem dX10_number_68 : decode cX10_number 68 = .ok (.invokevirtual 138, 3) := by decide +kernel
theorem dX10_number_71 : decode cX10_number 71 = .ok (.return_, 1) := by decide +kernel
theorem dX10_opens_0 : decode cX10_opens 0 = .ok (.aload_n 0, 1) := by decide +kernel
theorem dX10_opens_1 : decode cX10_opens 1 = .ok (.getfield 141, 3) := by decide +kernel
theorem dX10_opens_4 : decode cX10_opens 4 = .ok (.iconst 5, 1) := by decide +kernel
theorem dX10_opens_5 : decode cX10_opens 5 = .ok (.if_icmp .ne 9, 3) := by decide +kernel
theorem dX10_opens_8 : decode cX10_opens 8 = .ok (.aload_n 0, 1) := by decide +kernel
theorem dX10_opens_9 : decode cX10_opens 9 = .ok (.iconst 1, 1) := by decide +kernel
theorem dX10_opens_10 : decode cX10_opens 10 = .ok (.putfield 134, 3) := by decide +kernel
theorem dX10_opens_13 : decode cX10_opens 13 = .ok (.return_, 1) := by decide +kernel
theorem dX10_opens_14 : decode cX10_opens 14 = .ok (.aload_n 0, 1) := by decide +kernel
theorem dX10_opens_15 : decode cX10_opens 15 = .ok (.dup, 1) := by decide +kernel
theorem dX10_opens_16 : decode cX10_opens 16 = .ok (.getfield 141, 3) := by decide +kernel
theorem dX10_opens_19 : decode cX10_opens 19 = .ok (.iconst 1, 1) := by decide +kernel
theorem dX10_opens_20 : decode cX10_opens 20 = .ok (.iadd, 1) := by decide +kernel
theorem dX10_opens_21 : decode cX10_opens 21 = .ok (.putfield 141, 3) := by decide +kernel
theorem dX10_opens_24 : decode cX10_opens 24 = .ok (.aload_n 0, 1) := by decide +kernel
theorem dX10_opens_25 : decode cX10_opens 25 = .ok (.dup, 1) := by decide +kernel
theorem dX10_opens_26 : decode cX10_opens 26 = .ok (.getfield 120, 3) := by decide +kernel
theorem dX10_opens_29 : decode cX10_opens 29 = .ok (.iconst 1, 1) := by decide +kernel
theorem dX10_opens_30 : decode cX10_opens 30 = .ok (.iadd, 1) := by decide +kernel
theorem dX10_opens_31 : decode cX10_opens 31 = .ok (.putfield 120, 3) := by decide +kernel
theorem dX10_opens_34 : decode cX10_opens 34 = .ok (.iload_n 1, 1) := by decide +kernel
theorem dX10_opens_35 : decode cX10_opens 35 = .ok (.bipush 33, 2) := by decide +kernel
theorem dX10_opens_37 : decode cX10_opens 37 = .ok (.if_icmp .ne 16, 3) := by decide +kernel
theorem dX10_opens_40 : decode cX10_opens 40 = .ok (.aload_n 0, 1) := by decide +kernel
theorem dX10_opens_41 : decode cX10_opens 41 = .ok (.invokevirtual 144, 3) := by decide +kernel
theorem dX10_opens_44 : decode cX10_opens 44 = .ok (.aload_n 0, 1) := by decide +kernel
theorem dX10_opens_45 : decode cX10_opens 45 = .ok (.iconst 3, 1) := by decide +kernel
theorem dX10_opens_46 : decode cX10_opens 46 = .ok (.iconst 0, 1) := by decide +kernel
theorem dX10_opens_47 : decode cX10_opens 47 = .ok (.invokevirtual 138, 3) := by decide +kernel
theorem dX10_opens_50 : decode cX10_opens 50 = .ok (.goto 53, 3) := by decide +kernel
theorem dX10_opens_53 : decode cX10_opens 53 = .ok (.aload_n 0, 1) := by decide +kernel
theorem dX10_opens_54 : decode cX10_opens 54 = .ok (.invokevirtual 147, 3) := by decide +kernel
theorem dX10_opens_57 : decode cX10_opens 57 = .ok (.aload_n 0, 1) := by decide +kernel
theorem dX10_opens_58 : decode cX10_opens 58 = .ok (.aload_n 0, 1) := by decide +kernel
theorem dX10_opens_59 : decode cX10_opens 59 = .ok (.getfield 134, 3) := by decide +kernel
theorem dX10_opens_62 : decode cX10_opens 62 = .ok (.ifCond .ne 12, 3) := by decide +kernel
theorem dX10_opens_65 : decode cX10_opens 65 = .ok (.aload_n 0, 1) := by decide +kernel
theorem dX10_opens_66 : decode cX10_opens 66 = .ok (.invokevirtual 130, 3) := by decide +kernel
theorem dX10_opens_69 : decode cX10_opens 69 = .ok (.bipush 41, 2) := by decide +kernel
theorem dX10_opens_71 : decode cX10_opens 71 = .ok (.if_icmp .eq 7, 3) := by decide +kernel
theorem dX10_opens_74 : decode cX10_opens 74 = .ok (.iconst 1, 1) := by decide +kernel
theorem dX10_opens_75 : decode cX10_opens 75 = .ok (.goto 4, 3) := by decide +kernel
theorem dX10_opens_78 : decode cX10_opens 78 = .ok (.iconst 0, 1) := by decide +kernel
theorem dX10_opens_79 : decode cX10_opens 79 = .ok (.putfield 134, 3) := by decide +kernel
theorem dX10_opens_82 : decode cX10_opens 82 = .ok (.aload_n 0, 1) := by decide +kernel
theorem dX10_opens_83 : decode cX10_opens 83 = .ok (.dup, 1) := by decide +kernel
theorem dX10_opens_84 : decode cX10_opens 84 = .ok (.getfield 120, 3) := by decide +kernel
theorem dX10_opens_87 : decode cX10_opens 87 = .ok (.aload_n 0, 1) := by decide +kernel
theorem dX10_opens_88 : decode cX10_opens 88 = .ok (.getfield 134, 3) := by decide +kernel
theorem dX10_opens_91 : decode cX10_opens 91 = .ok (.ifCond .eq 7, 3) := by decide +kernel
theorem dX10_opens_94 : decode cX10_opens 94 = .ok (.iconst 0, 1) := by decide +kernel
theorem dX10_opens_95 : decode cX10_opens 95 = .ok (.goto 4, 3) := by decide +kernel
theorem dX10_opens_98 : decode cX10_opens 98 = .ok (.iconst 1, 1) := by decide +kernel
theorem dX10_opens_99 : decode cX10_opens 99 = .ok (.iadd, 1) := by decide +kernel
theorem dX10_opens_100 : decode cX10_opens 100 = .ok (.putfield 120, 3) := by decide +kernel
theorem dX10_opens_103 : decode cX10_opens 103 = .ok (.aload_n 0, 1) := by decide +kernel
theorem dX10_opens_104 : decode cX10_opens 104 = .ok (.dup, 1) := by decide +kernel
theorem dX10_opens_105 : decode cX10_opens 105 = .ok (.getfield 141, 3) := by decide +kernel
theorem dX10_opens_108 : decode cX10_opens 108 = .ok (.iconst 1, 1) := by decide +kernel
theorem dX10_opens_109 : decode cX10_opens 109 = .ok (.isub, 1) := by decide +kernel
theorem dX10_opens_110 : decode cX10_opens 110 = .ok (.putfield 141, 3) := by decide +kernel
theorem dX10_opens_113 : decode cX10_opens 113 = .ok (.return_, 1) := by decide +kernel
theorem dX10_one_0 : decode cX10_one 0 = .ok (.aload_n 0, 1) := by decide +kernel
theorem dX10_one_1 : decode cX10_one 1 = .ok (.invokevirtual 130, 3) := by decide +kernel
theorem dX10_one_4 : decode cX10_one 4 = .ok (.istore_n 1, 1) := by decide +kernel
theorem dX10_one_5 : decode cX10_one 5 = .ok (.aload_n 0, 1) := by decide +kernel
theorem dX10_one_6 : decode cX10_one 6 = .ok (.iload_n 1, 1) := by decide +kernel
theorem dX10_one_7 : decode cX10_one 7 = .ok (.invokevirtual 150, 3) := by decide +kernel
theorem dX10_one_10 : decode cX10_one 10 = .ok (.istore_n 2, 1) := by decide +kernel
theorem dX10_one_11 : decode cX10_one 11 = .ok (.iload_n 2, 1) := by decide +kernel
theorem dX10_one_12 : decode cX10_one 12 = .ok (.ifCond .lt 22, 3) := by decide +kernel
theorem dX10_one_15 : decode cX10_one 15 = .ok (.aload_n 0, 1) := by decide +kernel
theorem dX10_one_16 : decode cX10_one 16 = .ok (.dup, 1) := by decide +kernel
theorem dX10_one_17 : decode cX10_one 17 = .ok (.getfield 120, 3) := by decide +kernel
theorem dX10_one_20 : decode cX10_one 20 = .ok (.iconst 1, 1) := by decide +kernel
theorem dX10_one_21 : decode cX10_one 21 = .ok (.iadd, 1) := by decide +kernel
theorem dX10_one_22 : decode cX10_one 22 = .ok (.putfield 120, 3) := by decide +kernel
theorem dX10_one_25 : decode cX10_one 25 = .ok (.aload_n 0, 1) := by decide +kernel
theorem dX10_one_26 : decode cX10_one 26 = .ok (.iconst 2, 1) := by decide +kernel
theorem dX10_one_27 : decode cX10_one 27 = .ok (.iload_n 2, 1) := by decide +kernel
theorem dX10_one_28 : decode cX10_one 28 = .ok (.invokevirtual 138, 3) := by decide +kernel
theorem dX10_one_31 : decode cX10_one 31 = .ok (.goto 27, 3) := by decide +kernel
theorem dX10_one_34 : decode cX10_one 34 = .ok (.iload_n 1, 1) := by decide +kernel
theorem dX10_one_35 : decode cX10_one 35 = .ok (.bipush 33, 2) := by decide +kernel
theorem dX10_one_37 : decode cX10_one 37 = .ok (.if_icmp .eq 9, 3) := by decide +kernel
theorem dX10_one_40 : decode cX10_one 40 = .ok (.iload_n 1, 1) := by decide +kernel
theorem dX10_one_41 : decode cX10_one 41 = .ok (.bipush 40, 2) := by decide +kernel
theorem dX10_one_43 : decode cX10_one 43 = .ok (.if_icmp .ne 11, 3) := by decide +kernel
theorem dX10_one_46 : decode cX10_one 46 = .ok (.aload_n 0, 1) := by decide +kernel
theorem dX10_one_47 : decode cX10_one 47 = .ok (.iload_n 1, 1) := by decide +kernel
theorem dX10_one_48 : decode cX10_one 48 = .ok (.invokevirtual 153, 3) := by decide +kernel
theorem dX10_one_51 : decode cX10_one 51 = .ok (.goto 7, 3) := by decide +kernel
theorem dX10_one_54 : decode cX10_one 54 = .ok (.aload_n 0, 1) := by decide +kernel
theorem dX10_one_55 : decode cX10_one 55 = .ok (.invokevirtual 157, 3) := by decide +kernel
theorem dX10_one_58 : decode cX10_one 58 = .ok (.return_, 1) := by decide +kernel
theorem dX10_times_0 : decode cX10_times 0 = .ok (.aload_n 0, 1) := by decide +kernel
theorem dX10_times_1 : decode cX10_times 1 = .ok (.invokevirtual 144, 3) := by decide +kernel
theorem dX10_times_4 : decode cX10_times 4 = .ok (.aload_n 0, 1) := by decide +kernel
theorem dX10_times_5 : decode cX10_times 5 = .ok (.getfield 134, 3) := by decide +kernel
theorem dX10_times_8 : decode cX10_times 8 = .ok (.ifCond .ne 58, 3) := by decide +kernel
theorem dX10_times_11 : decode cX10_times 11 = .ok (.aload_n 0, 1) := by decide +kernel
theorem dX10_times_12 : decode cX10_times 12 = .ok (.invokevirtual 130, 3) := by decide +kernel
theorem dX10_times_15 : decode cX10_times 15 = .ok (.bipush 42, 2) := by decide +kernel
theorem dX10_times_17 : decode cX10_times 17 = .ok (.if_icmp .eq 21, 3) := by decide +kernel
theorem dX10_times_20 : decode cX10_times 20 = .ok (.aload_n 0, 1) := by decide +kernel
theorem dX10_times_21 : decode cX10_times 21 = .ok (.invokevirtual 130, 3) := by decide +kernel
theorem dX10_times_24 : decode cX10_times 24 = .ok (.bipush 47, 2) := by decide +kernel
theorem dX10_times_26 : decode cX10_times 26 = .ok (.if_icmp .eq 12, 3) := by decide +kernel
theorem dX10_times_29 : decode cX10_times 29 = .ok (.aload_n 0, 1) := by decide +kernel
theorem dX10_times_30 : decode cX10_times 30 = .ok (.invokevirtual 130, 3) := by decide +kernel
theorem dX10_times_33 : decode cX10_times 33 = .ok (.bipush 37, 2) := by decide +kernel
theorem dX10_times_35 : decode cX10_times 35 = .ok (.if_icmp .ne 31, 3) := by decide +kernel
theorem dX10_times_38 : decode cX10_times 38 = .ok (.aload_n 0, 1) := by decide +kernel
theorem dX10_times_39 : decode cX10_times 39 = .ok (.invokevirtual 130, 3) := by decide +kernel
theorem dX10_times_42 : decode cX10_times 42 = .ok (.istore_n 1, 1) := by decide +kernel
theorem dX10_times_43 : decode cX10_times 43 = .ok (.aload_n 0, 1) := by decide +kernel
theorem dX10_times_44 : decode cX10_times 44 = .ok (.dup, 1) := by decide +kernel
theorem dX10_times_45 : decode cX10_times 45 = .ok (.getfield 120, 3) := by decide +kernel
theorem dX10_times_48 : decode cX10_times 48 = .ok (.iconst 1, 1) := by decide +kernel
theorem dX10_times_49 : decode cX10_times 49 = .ok (.iadd, 1) := by decide +kernel
theorem dX10_times_50 : decode cX10_times 50 = .ok (.putfield 120, 3) := by decide +kernel
theorem dX10_times_53 : decode cX10_times 53 = .ok (.aload_n 0, 1) := by decide +kernel
theorem dX10_times_54 : decode cX10_times 54 = .ok (.invokevirtual 144, 3) := by decide +kernel
theorem dX10_times_57 : decode cX10_times 57 = .ok (.aload_n 0, 1) := by decide +kernel
theorem dX10_times_58 : decode cX10_times 58 = .ok (.iload_n 1, 1) := by decide +kernel
theorem dX10_times_59 : decode cX10_times 59 = .ok (.iconst 0, 1) := by decide +kernel
theorem dX10_times_60 : decode cX10_times 60 = .ok (.invokevirtual 138, 3) := by decide +kernel
theorem dX10_times_63 : decode cX10_times 63 = .ok (.goto (-59), 3) := by decide +kernel
theorem dX10_times_66 : decode cX10_times 66 = .ok (.return_, 1) := by decide +kernel
theorem dX10_sum_0 : decode cX10_sum 0 = .ok (.aload_n 0, 1) := by decide +kernel
theorem dX10_sum_1 : decode cX10_sum 1 = .ok (.invokevirtual 160, 3) := by decide +kernel
theorem dX10_sum_4 : decode cX10_sum 4 = .ok (.aload_n 0, 1) := by decide +kernel
theorem dX10_sum_5 : decode cX10_sum 5 = .ok (.getfield 134, 3) := by decide +kernel
theorem dX10_sum_8 : decode cX10_sum 8 = .ok (.ifCond .ne 49, 3) := by decide +kernel
theorem dX10_sum_11 : decode cX10_sum 11 = .ok (.aload_n 0, 1) := by decide +kernel
theorem dX10_sum_12 : decode cX10_sum 12 = .ok (.invokevirtual 130, 3) := by decide +kernel
theorem dX10_sum_15 : decode cX10_sum 15 = .ok (.bipush 43, 2) := by decide +kernel
theorem dX10_sum_17 : decode cX10_sum 17 = .ok (.if_icmp .eq 12, 3) := by decide +kernel
theorem dX10_sum_20 : decode cX10_sum 20 = .ok (.aload_n 0, 1) := by decide +kernel
theorem dX10_sum_21 : decode cX10_sum 21 = .ok (.invokevirtual 130, 3) := by decide +kernel
theorem dX10_sum_24 : decode cX10_sum 24 = .ok (.bipush 45, 2) := by decide +kernel
theorem dX10_sum_26 : decode cX10_sum 26 = .ok (.if_icmp .ne 31, 3) := by decide +kernel
theorem dX10_sum_29 : decode cX10_sum 29 = .ok (.aload_n 0, 1) := by decide +kernel
theorem dX10_sum_30 : decode cX10_sum 30 = .ok (.invokevirtual 130, 3) := by decide +kernel
theorem dX10_sum_33 : decode cX10_sum 33 = .ok (.istore_n 1, 1) := by decide +kernel
theorem dX10_sum_34 : decode cX10_sum 34 = .ok (.aload_n 0, 1) := by decide +kernel
theorem dX10_sum_35 : decode cX10_sum 35 = .ok (.dup, 1) := by decide +kernel
theorem dX10_sum_36 : decode cX10_sum 36 = .ok (.getfield 120, 3) := by decide +kernel
theorem dX10_sum_39 : decode cX10_sum 39 = .ok (.iconst 1, 1) := by decide +kernel
theorem dX10_sum_40 : decode cX10_sum 40 = .ok (.iadd, 1) := by decide +kernel
theorem dX10_sum_41 : decode cX10_sum 41 = .ok (.putfield 120, 3) := by decide +kernel
theorem dX10_sum_44 : decode cX10_sum 44 = .ok (.aload_n 0, 1) := by decide +kernel
theorem dX10_sum_45 : decode cX10_sum 45 = .ok (.invokevirtual 160, 3) := by decide +kernel
theorem dX10_sum_48 : decode cX10_sum 48 = .ok (.aload_n 0, 1) := by decide +kernel
theorem dX10_sum_49 : decode cX10_sum 49 = .ok (.iload_n 1, 1) := by decide +kernel
theorem dX10_sum_50 : decode cX10_sum 50 = .ok (.iconst 0, 1) := by decide +kernel
theorem dX10_sum_51 : decode cX10_sum 51 = .ok (.invokevirtual 138, 3) := by decide +kernel
theorem dX10_sum_54 : decode cX10_sum 54 = .ok (.goto (-50), 3) := by decide +kernel
theorem dX10_sum_57 : decode cX10_sum 57 = .ok (.return_, 1) := by decide +kernel
theorem dX10_compares_0 : decode cX10_compares 0 = .ok (.aload_n 0, 1) := by decide +kernel
theorem dX10_compares_1 : decode cX10_compares 1 = .ok (.invokevirtual 163, 3) := by decide +kernel
theorem dX10_compares_4 : decode cX10_compares 4 = .ok (.aload_n 0, 1) := by decide +kernel
theorem dX10_compares_5 : decode cX10_compares 5 = .ok (.invokevirtual 130, 3) := by decide +kernel
theorem dX10_compares_8 : decode cX10_compares 8 = .ok (.istore_n 1, 1) := by decide +kernel
theorem dX10_compares_9 : decode cX10_compares 9 = .ok (.aload_n 0, 1) := by decide +kernel
theorem dX10_compares_10 : decode cX10_compares 10 = .ok (.getfield 134, 3) := by decide +kernel
theorem dX10_compares_13 : decode cX10_compares 13 = .ok (.ifCond .ne 41, 3) := by decide +kernel
theorem dX10_compares_16 : decode cX10_compares 16 = .ok (.iload_n 1, 1) := by decide +kernel
theorem dX10_compares_17 : decode cX10_compares 17 = .ok (.bipush 60, 2) := by decide +kernel
theorem dX10_compares_19 : decode cX10_compares 19 = .ok (.if_icmp .eq 15, 3) := by decide +kernel
theorem dX10_compares_22 : decode cX10_compares 22 = .ok (.iload_n 1, 1) := by decide +kernel
theorem dX10_compares_23 : decode cX10_compares 23 = .ok (.bipush 61, 2) := by decide +kernel
theorem dX10_compares_25 : decode cX10_compares 25 = .ok (.if_icmp .eq 9, 3) := by decide +kernel
theorem dX10_compares_28 : decode cX10_compares 28 = .ok (.iload_n 1, 1) := by decide +kernel
theorem dX10_compares_29 : decode cX10_compares 29 = .ok (.bipush 62, 2) := by decide +kernel
theorem dX10_compares_31 : decode cX10_compares 31 = .ok (.if_icmp .ne 23, 3) := by decide +kernel
theorem dX10_compares_34 : decode cX10_compares 34 = .ok (.aload_n 0, 1) := by decide +kernel
theorem dX10_compares_35 : decode cX10_compares 35 = .ok (.dup, 1) := by decide +kernel
theorem dX10_compares_36 : decode cX10_compares 36 = .ok (.getfield 120, 3) := by decide +kernel
theorem dX10_compares_39 : decode cX10_compares 39 = .ok (.iconst 1, 1) := by decide +kernel
theorem dX10_compares_40 : decode cX10_compares 40 = .ok (.iadd, 1) := by decide +kernel
theorem dX10_compares_41 : decode cX10_compares 41 = .ok (.putfield 120, 3) := by decide +kernel
theorem dX10_compares_44 : decode cX10_compares 44 = .ok (.aload_n 0, 1) := by decide +kernel
theorem dX10_compares_45 : decode cX10_compares 45 = .ok (.invokevirtual 163, 3) := by decide +kernel
theorem dX10_compares_48 : decode cX10_compares 48 = .ok (.aload_n 0, 1) := by decide +kernel
theorem dX10_compares_49 : decode cX10_compares 49 = .ok (.iload_n 1, 1) := by decide +kernel
theorem dX10_compares_50 : decode cX10_compares 50 = .ok (.iconst 0, 1) := by decide +kernel
theorem dX10_compares_51 : decode cX10_compares 51 = .ok (.invokevirtual 138, 3) := by decide +kernel
theorem dX10_compares_54 : decode cX10_compares 54 = .ok (.return_, 1) := by decide +kernel
theorem dX10_all_0 : decode cX10_all 0 = .ok (.aload_n 0, 1) := by decide +kernel
theorem dX10_all_1 : decode cX10_all 1 = .ok (.invokevirtual 166, 3) := by decide +kernel
theorem dX10_all_4 : decode cX10_all 4 = .ok (.aload_n 0, 1) := by decide +kernel
theorem dX10_all_5 : decode cX10_all 5 = .ok (.getfield 134, 3) := by decide +kernel
theorem dX10_all_8 : decode cX10_all 8 = .ok (.ifCond .ne 36, 3) := by decide +kernel
theorem dX10_all_11 : decode cX10_all 11 = .ok (.aload_n 0, 1) := by decide +kernel
theorem dX10_all_12 : decode cX10_all 12 = .ok (.invokevirtual 130, 3) := by decide +kernel
theorem dX10_all_15 : decode cX10_all 15 = .ok (.bipush 38, 2) := by decide +kernel
theorem dX10_all_17 : decode cX10_all 17 = .ok (.if_icmp .ne 27, 3) := by decide +kernel
theorem dX10_all_20 : decode cX10_all 20 = .ok (.aload_n 0, 1) := by decide +kernel
theorem dX10_all_21 : decode cX10_all 21 = .ok (.dup, 1) := by decide +kernel
theorem dX10_all_22 : decode cX10_all 22 = .ok (.getfield 120, 3) := by decide +kernel
theorem dX10_all_25 : decode cX10_all 25 = .ok (.iconst 1, 1) := by decide +kernel
theorem dX10_all_26 : decode cX10_all 26 = .ok (.iadd, 1) := by decide +kernel
theorem dX10_all_27 : decode cX10_all 27 = .ok (.putfield 120, 3) := by decide +kernel
theorem dX10_all_30 : decode cX10_all 30 = .ok (.aload_n 0, 1) := by decide +kernel
theorem dX10_all_31 : decode cX10_all 31 = .ok (.invokevirtual 166, 3) := by decide +kernel
theorem dX10_all_34 : decode cX10_all 34 = .ok (.aload_n 0, 1) := by decide +kernel
theorem dX10_all_35 : decode cX10_all 35 = .ok (.bipush 38, 2) := by decide +kernel
theorem dX10_all_37 : decode cX10_all 37 = .ok (.iconst 0, 1) := by decide +kernel
theorem dX10_all_38 : decode cX10_all 38 = .ok (.invokevirtual 138, 3) := by decide +kernel
theorem dX10_all_41 : decode cX10_all 41 = .ok (.goto (-37), 3) := by decide +kernel
theorem dX10_all_44 : decode cX10_all 44 = .ok (.return_, 1) := by decide +kernel
theorem dX10_any_0 : decode cX10_any 0 = .ok (.aload_n 0, 1) := by decide +kernel
theorem dX10_any_1 : decode cX10_any 1 = .ok (.invokevirtual 169, 3) := by decide +kernel
theorem dX10_any_4 : decode cX10_any 4 = .ok (.aload_n 0, 1) := by decide +kernel
theorem dX10_any_5 : decode cX10_any 5 = .ok (.getfield 134, 3) := by decide +kernel
theorem dX10_any_8 : decode cX10_any 8 = .ok (.ifCond .ne 36, 3) := by decide +kernel
theorem dX10_any_11 : decode cX10_any 11 = .ok (.aload_n 0, 1) := by decide +kernel
theorem dX10_any_12 : decode cX10_any 12 = .ok (.invokevirtual 130, 3) := by decide +kernel
theorem dX10_any_15 : decode cX10_any 15 = .ok (.bipush 124, 2) := by decide +kernel
theorem dX10_any_17 : decode cX10_any 17 = .ok (.if_icmp .ne 27, 3) := by decide +kernel
theorem dX10_any_20 : decode cX10_any 20 = .ok (.aload_n 0, 1) := by decide +kernel
theorem dX10_any_21 : decode cX10_any 21 = .ok (.dup, 1) := by decide +kernel
theorem dX10_any_22 : decode cX10_any 22 = .ok (.getfield 120, 3) := by decide +kernel
theorem dX10_any_25 : decode cX10_any 25 = .ok (.iconst 1, 1) := by decide +kernel
theorem dX10_any_26 : decode cX10_any 26 = .ok (.iadd, 1) := by decide +kernel
theorem dX10_any_27 : decode cX10_any 27 = .ok (.putfield 120, 3) := by decide +kernel
theorem dX10_any_30 : decode cX10_any 30 = .ok (.aload_n 0, 1) := by decide +kernel
theorem dX10_any_31 : decode cX10_any 31 = .ok (.invokevirtual 169, 3) := by decide +kernel
theorem dX10_any_34 : decode cX10_any 34 = .ok (.aload_n 0, 1) := by decide +kernel
theorem dX10_any_35 : decode cX10_any 35 = .ok (.bipush 124, 2) := by decide +kernel
theorem dX10_any_37 : decode cX10_any 37 = .ok (.iconst 0, 1) := by decide +kernel
theorem dX10_any_38 : decode cX10_any 38 = .ok (.invokevirtual 138, 3) := by decide +kernel
theorem dX10_any_41 : decode cX10_any 41 = .ok (.goto (-37), 3) := by decide +kernel
theorem dX10_any_44 : decode cX10_any 44 = .ok (.return_, 1) := by decide +kernel
theorem dX10_text_0 : decode cX10_text 0 = .ok (.iload_n 1, 1) := by decide +kernel
theorem dX10_text_1 : decode cX10_text 1 = .ok (.iconst 0, 1) := by decide +kernel
theorem dX10_text_2 : decode cX10_text 2 = .ok (.iconst 1, 1) := by decide +kernel
theorem dX10_text_3 : decode cX10_text 3 = .ok (.invokestatic 51, 3) := by decide +kernel
theorem dX10_text_6 : decode cX10_text 6 = .ok (.ifCond .ne 10, 3) := by decide +kernel
theorem dX10_text_9 : decode cX10_text 9 = .ok (.aload_n 0, 1) := by decide +kernel
theorem dX10_text_10 : decode cX10_text 10 = .ok (.ldc 90, 2) := by decide +kernel
theorem dX10_text_12 : decode cX10_text 12 = .ok (.invokevirtual 91, 3) := by decide +kernel
theorem dX10_text_15 : decode cX10_text 15 = .ok (.ireturn, 1) := by decide +kernel
theorem dX10_text_16 : decode cX10_text 16 = .ok (.aload_n 0, 1) := by decide +kernel
theorem dX10_text_17 : decode cX10_text 17 = .ok (.iload_n 1, 1) := by decide +kernel
theorem dX10_text_18 : decode cX10_text 18 = .ok (.putfield 127, 3) := by decide +kernel
theorem dX10_text_21 : decode cX10_text 21 = .ok (.aload_n 0, 1) := by decide +kernel
theorem dX10_text_22 : decode cX10_text 22 = .ok (.iconst 0, 1) := by decide +kernel
theorem dX10_text_23 : decode cX10_text 23 = .ok (.putfield 124, 3) := by decide +kernel
theorem dX10_text_26 : decode cX10_text 26 = .ok (.aload_n 0, 1) := by decide +kernel
theorem dX10_text_27 : decode cX10_text 27 = .ok (.iconst 0, 1) := by decide +kernel
theorem dX10_text_28 : decode cX10_text 28 = .ok (.putfield 120, 3) := by decide +kernel
theorem dX10_text_31 : decode cX10_text 31 = .ok (.aload_n 0, 1) := by decide +kernel
theorem dX10_text_32 : decode cX10_text 32 = .ok (.iconst 0, 1) := by decide +kernel
theorem dX10_text_33 : decode cX10_text 33 = .ok (.putfield 141, 3) := by decide +kernel
theorem dX10_text_36 : decode cX10_text 36 = .ok (.aload_n 0, 1) := by decide +kernel
theorem dX10_text_37 : decode cX10_text 37 = .ok (.iconst 0, 1) := by decide +kernel
theorem dX10_text_38 : decode cX10_text 38 = .ok (.putfield 134, 3) := by decide +kernel
theorem dX10_text_41 : decode cX10_text 41 = .ok (.aload_n 0, 1) := by decide +kernel
theorem dX10_text_42 : decode cX10_text 42 = .ok (.invokevirtual 147, 3) := by decide +kernel
theorem dX10_text_45 : decode cX10_text 45 = .ok (.aload_n 0, 1) := by decide +kernel
theorem dX10_text_46 : decode cX10_text 46 = .ok (.aload_n 0, 1) := by decide +kernel
theorem dX10_text_47 : decode cX10_text 47 = .ok (.getfield 134, 3) := by decide +kernel
theorem dX10_text_50 : decode cX10_text 50 = .ok (.ifCond .ne 16, 3) := by decide +kernel
theorem dX10_text_53 : decode cX10_text 53 = .ok (.aload_n 0, 1) := by decide +kernel
theorem dX10_text_54 : decode cX10_text 54 = .ok (.getfield 120, 3) := by decide +kernel
theorem dX10_text_57 : decode cX10_text 57 = .ok (.aload_n 0, 1) := by decide +kernel
theorem dX10_text_58 : decode cX10_text 58 = .ok (.getfield 9, 3) := by decide +kernel
theorem dX10_text_61 : decode cX10_text 61 = .ok (.iconst 5, 1) := by decide +kernel
theorem dX10_text_62 : decode cX10_text 62 = .ok (.iaload, 1) := by decide +kernel
theorem dX10_text_63 : decode cX10_text 63 = .ok (.if_icmp .ge 7, 3) := by decide +kernel
theorem dX10_text_66 : decode cX10_text 66 = .ok (.iconst 1, 1) := by decide +kernel
theorem dX10_text_67 : decode cX10_text 67 = .ok (.goto 4, 3) := by decide +kernel
theorem dX10_text_70 : decode cX10_text 70 = .ok (.iconst 0, 1) := by decide +kernel
theorem dX10_text_71 : decode cX10_text 71 = .ok (.putfield 134, 3) := by decide +kernel
theorem dX10_text_74 : decode cX10_text 74 = .ok (.aload_n 0, 1) := by decide +kernel
theorem dX10_text_75 : decode cX10_text 75 = .ok (.getfield 9, 3) := by decide +kernel
theorem dX10_text_78 : decode cX10_text 78 = .ok (.iconst 5, 1) := by decide +kernel
theorem dX10_text_79 : decode cX10_text 79 = .ok (.iconst 0, 1) := by decide +kernel
theorem dX10_text_80 : decode cX10_text 80 = .ok (.iastore, 1) := by decide +kernel
theorem dX10_text_81 : decode cX10_text 81 = .ok (.aload_n 0, 1) := by decide +kernel
theorem dX10_text_82 : decode cX10_text 82 = .ok (.getfield 134, 3) := by decide +kernel
theorem dX10_text_85 : decode cX10_text 85 = .ok (.ifCond .eq 11, 3) := by decide +kernel
theorem dX10_text_88 : decode cX10_text 88 = .ok (.bipush (-10), 2) := by decide +kernel
theorem dX10_text_90 : decode cX10_text 90 = .ok (.aload_n 0, 1) := by decide +kernel
theorem dX10_text_91 : decode cX10_text 91 = .ok (.getfield 120, 3) := by decide +kernel
theorem dX10_text_94 : decode cX10_text 94 = .ok (.isub, 1) := by decide +kernel
theorem dX10_text_95 : decode cX10_text 95 = .ok (.ireturn, 1) := by decide +kernel
theorem dX10_text_96 : decode cX10_text 96 = .ok (.sipush 143, 3) := by decide +kernel
theorem dX10_text_99 : decode cX10_text 99 = .ok (.bipush 121, 2) := by decide +kernel
theorem dX10_text_101 : decode cX10_text 101 = .ok (.iload_n 1, 1) := by decide +kernel
theorem dX10_text_102 : decode cX10_text 102 = .ok (.imul, 1) := by decide +kernel
theorem dX10_text_103 : decode cX10_text 103 = .ok (.iadd, 1) := by decide +kernel
theorem dX10_text_104 : decode cX10_text 104 = .ok (.istore_n 2, 1) := by decide +kernel
theorem dX10_text_105 : decode cX10_text 105 = .ok (.aload_n 0, 1) := by decide +kernel
theorem dX10_text_106 : decode cX10_text 106 = .ok (.getfield 9, 3) := by decide +kernel
theorem dX10_text_109 : decode cX10_text 109 = .ok (.iload_n 2, 1) := by decide +kernel
theorem dX10_text_110 : decode cX10_text 110 = .ok (.aload_n 0, 1) := by decide +kernel
theorem dX10_text_111 : decode cX10_text 111 = .ok (.getfield 124, 3) := by decide +kernel
theorem dX10_text_114 : decode cX10_text 114 = .ok (.iastore, 1) := by decide +kernel
theorem dX10_text_115 : decode cX10_text 115 = .ok (.iconst 0, 1) := by decide +kernel
theorem dX10_text_116 : decode cX10_text 116 = .ok (.istore_n 3, 1) := by decide +kernel
theorem dX10_text_117 : decode cX10_text 117 = .ok (.iload_n 3, 1) := by decide +kernel
theorem dX10_text_118 : decode cX10_text 118 = .ok (.aload_n 0, 1) := by decide +kernel
theorem dX10_text_119 : decode cX10_text 119 = .ok (.getfield 124, 3) := by decide +kernel
theorem dX10_text_122 : decode cX10_text 122 = .ok (.if_icmp .ge 42, 3) := by decide +kernel
theorem dX10_text_125 : decode cX10_text 125 = .ok (.aload_n 0, 1) := by decide +kernel
theorem dX10_text_126 : decode cX10_text 126 = .ok (.getfield 9, 3) := by decide +kernel
theorem dX10_text_129 : decode cX10_text 129 = .ok (.iload_n 2, 1) := by decide +kernel
theorem dX10_text_130 : decode cX10_text 130 = .ok (.iconst 1, 1) := by decide +kernel
theorem dX10_text_131 : decode cX10_text 131 = .ok (.iadd, 1) := by decide +kernel
theorem dX10_text_132 : decode cX10_text 132 = .ok (.iload_n 3, 1) := by decide +kernel
theorem dX10_text_133 : decode cX10_text 133 = .ok (.iadd, 1) := by decide +kernel
theorem dX10_text_134 : decode cX10_text 134 = .ok (.aload_n 0, 1) := by decide +kernel
theorem dX10_text_135 : decode cX10_text 135 = .ok (.getfield 31, 3) := by decide +kernel
theorem dX10_text_138 : decode cX10_text 138 = .ok (.iload_n 3, 1) := by decide +kernel
theorem dX10_text_139 : decode cX10_text 139 = .ok (.iaload, 1) := by decide +kernel
theorem dX10_text_140 : decode cX10_text 140 = .ok (.iastore, 1) := by decide +kernel
theorem dX10_text_141 : decode cX10_text 141 = .ok (.aload_n 0, 1) := by decide +kernel
theorem dX10_text_142 : decode cX10_text 142 = .ok (.getfield 9, 3) := by decide +kernel
theorem dX10_text_145 : decode cX10_text 145 = .ok (.iload_n 2, 1) := by decide +kernel
theorem dX10_text_146 : decode cX10_text 146 = .ok (.bipush 61, 2) := by decide +kernel
theorem dX10_text_148 : decode cX10_text 148 = .ok (.iadd, 1) := by decide +kernel
theorem dX10_text_149 : decode cX10_text 149 = .ok (.iload_n 3, 1) := by decide +kernel
theorem dX10_text_150 : decode cX10_text 150 = .ok (.iadd, 1) := by decide +kernel
theorem dX10_text_151 : decode cX10_text 151 = .ok (.aload_n 0, 1) := by decide +kernel
theorem dX10_text_152 : decode cX10_text 152 = .ok (.getfield 34, 3) := by decide +kernel
theorem dX10_text_155 : decode cX10_text 155 = .ok (.iload_n 3, 1) := by decide +kernel
theorem dX10_text_156 : decode cX10_text 156 = .ok (.iaload, 1) := by decide +kernel
theorem dX10_text_157 : decode cX10_text 157 = .ok (.iastore, 1) := by decide +kernel
theorem dX10_text_158 : decode cX10_text 158 = .ok (.iinc 3 1, 3) := by decide +kernel
theorem dX10_text_161 : decode cX10_text 161 = .ok (.goto (-44), 3) := by decide +kernel
theorem dX10_text_164 : decode cX10_text 164 = .ok (.iconst 1, 1) := by decide +kernel
theorem dX10_text_165 : decode cX10_text 165 = .ok (.ireturn, 1) := by decide +kernel
theorem dX10_untell_0 : decode cX10_untell 0 = .ok (.iload_n 1, 1) := by decide +kernel
theorem dX10_untell_1 : decode cX10_untell 1 = .ok (.iconst 0, 1) := by decide +kernel
theorem dX10_untell_2 : decode cX10_untell 2 = .ok (.iconst 1, 1) := by decide +kernel
theorem dX10_untell_3 : decode cX10_untell 3 = .ok (.invokestatic 51, 3) := by decide +kernel
theorem dX10_untell_6 : decode cX10_untell 6 = .ok (.ifCond .ne 10, 3) := by decide +kernel
theorem dX10_untell_9 : decode cX10_untell 9 = .ok (.aload_n 0, 1) := by decide +kernel
theorem dX10_untell_10 : decode cX10_untell 10 = .ok (.ldc 90, 2) := by decide +kernel
theorem dX10_untell_12 : decode cX10_untell 12 = .ok (.invokevirtual 91, 3) := by decide +kernel
theorem dX10_untell_15 : decode cX10_untell 15 = .ok (.ireturn, 1) := by decide +kernel
theorem dX10_untell_16 : decode cX10_untell 16 = .ok (.aload_n 0, 1) := by decide +kernel
theorem dX10_untell_17 : decode cX10_untell 17 = .ok (.sipush 143, 3) := by decide +kernel
theorem dX10_untell_20 : decode cX10_untell 20 = .ok (.bipush 121, 2) := by decide +kernel
theorem dX10_untell_22 : decode cX10_untell 22 = .ok (.iload_n 1, 1) := by decide +kernel
theorem dX10_untell_23 : decode cX10_untell 23 = .ok (.imul, 1) := by decide +kernel
theorem dX10_untell_24 : decode cX10_untell 24 = .ok (.iadd, 1) := by decide +kernel
theorem dX10_untell_25 : decode cX10_untell 25 = .ok (.iconst 0, 1) := by decide +kernel
theorem dX10_untell_26 : decode cX10_untell 26 = .ok (.invokevirtual 105, 3) := by decide +kernel
theorem dX10_untell_29 : decode cX10_untell 29 = .ok (.ifCond .le 7, 3) := by decide +kernel
theorem dX10_untell_32 : decode cX10_untell 32 = .ok (.iconst 1, 1) := by decide +kernel
theorem dX10_untell_33 : decode cX10_untell 33 = .ok (.goto 4, 3) := by decide +kernel
theorem dX10_untell_36 : decode cX10_untell 36 = .ok (.iconst 0, 1) := by decide +kernel
theorem dX10_untell_37 : decode cX10_untell 37 = .ok (.ireturn, 1) := by decide +kernel
theorem dX10_twoOf_0 : decode cX10_twoOf 0 = .ok (.iload_n 0, 1) := by decide +kernel
theorem dX10_twoOf_1 : decode cX10_twoOf 1 = .ok (.tableswitch 202 37 62 #[143, 188, 202, 202, 202, 127, 119, 202, 123, 202, 131, 202, 202, 202, 202, 202, 202, 202, 202, 202, 202, 202, 202, 155, 166, 177], 119) := by decide +kernel
theorem dX10_twoOf_120 : decode cX10_twoOf 120 = .ok (.iload_n 1, 1) := by decide +kernel
theorem dX10_twoOf_121 : decode cX10_twoOf 121 = .ok (.iload_n 2, 1) := by decide +kernel
theorem dX10_twoOf_122 : decode cX10_twoOf 122 = .ok (.iadd, 1) := by decide +kernel
theorem dX10_twoOf_123 : decode cX10_twoOf 123 = .ok (.ireturn, 1) := by decide +kernel
theorem dX10_twoOf_124 : decode cX10_twoOf 124 = .ok (.iload_n 1, 1) := by decide +kernel
theorem dX10_twoOf_125 : decode cX10_twoOf 125 = .ok (.iload_n 2, 1) := by decide +kernel
theorem dX10_twoOf_126 : decode cX10_twoOf 126 = .ok (.isub, 1) := by decide +kernel
theorem dX10_twoOf_127 : decode cX10_twoOf 127 = .ok (.ireturn, 1) := by decide +kernel
theorem dX10_twoOf_128 : decode cX10_twoOf 128 = .ok (.iload_n 1, 1) := by decide +kernel
theorem dX10_twoOf_129 : decode cX10_twoOf 129 = .ok (.iload_n 2, 1) := by decide +kernel
theorem dX10_twoOf_130 : decode cX10_twoOf 130 = .ok (.imul, 1) := by decide +kernel
theorem dX10_twoOf_131 : decode cX10_twoOf 131 = .ok (.ireturn, 1) := by decide +kernel
theorem dX10_twoOf_132 : decode cX10_twoOf 132 = .ok (.iload_n 2, 1) := by decide +kernel
theorem dX10_twoOf_133 : decode cX10_twoOf 133 = .ok (.ifCond .ne 7, 3) := by decide +kernel
theorem dX10_twoOf_136 : decode cX10_twoOf 136 = .ok (.iconst 0, 1) := by decide +kernel
theorem dX10_twoOf_137 : decode cX10_twoOf 137 = .ok (.goto 6, 3) := by decide +kernel
theorem dX10_twoOf_140 : decode cX10_twoOf 140 = .ok (.iload_n 1, 1) := by decide +kernel
theorem dX10_twoOf_141 : decode cX10_twoOf 141 = .ok (.iload_n 2, 1) := by decide +kernel
theorem dX10_twoOf_142 : decode cX10_twoOf 142 = .ok (.idiv, 1) := by decide +kernel
theorem dX10_twoOf_143 : decode cX10_twoOf 143 = .ok (.ireturn, 1) := by decide +kernel
theorem dX10_twoOf_144 : decode cX10_twoOf 144 = .ok (.iload_n 2, 1) := by decide +kernel
theorem dX10_twoOf_145 : decode cX10_twoOf 145 = .ok (.ifCond .ne 7, 3) := by decide +kernel
theorem dX10_twoOf_148 : decode cX10_twoOf 148 = .ok (.iconst 0, 1) := by decide +kernel
theorem dX10_twoOf_149 : decode cX10_twoOf 149 = .ok (.goto 6, 3) := by decide +kernel
theorem dX10_twoOf_152 : decode cX10_twoOf 152 = .ok (.iload_n 1, 1) := by decide +kernel
theorem dX10_twoOf_153 : decode cX10_twoOf 153 = .ok (.iload_n 2, 1) := by decide +kernel
theorem dX10_twoOf_154 : decode cX10_twoOf 154 = .ok (.irem, 1) := by decide +kernel
theorem dX10_twoOf_155 : decode cX10_twoOf 155 = .ok (.ireturn, 1) := by decide +kernel
theorem dX10_twoOf_156 : decode cX10_twoOf 156 = .ok (.iload_n 1, 1) := by decide +kernel
theorem dX10_twoOf_157 : decode cX10_twoOf 157 = .ok (.iload_n 2, 1) := by decide +kernel
theorem dX10_twoOf_158 : decode cX10_twoOf 158 = .ok (.if_icmp .ge 7, 3) := by decide +kernel
theorem dX10_twoOf_161 : decode cX10_twoOf 161 = .ok (.iconst 1, 1) := by decide +kernel
theorem dX10_twoOf_162 : decode cX10_twoOf 162 = .ok (.goto 4, 3) := by decide +kernel
theorem dX10_twoOf_165 : decode cX10_twoOf 165 = .ok (.iconst 0, 1) := by decide +kernel
theorem dX10_twoOf_166 : decode cX10_twoOf 166 = .ok (.ireturn, 1) := by decide +kernel
theorem dX10_twoOf_167 : decode cX10_twoOf 167 = .ok (.iload_n 1, 1) := by decide +kernel
theorem dX10_twoOf_168 : decode cX10_twoOf 168 = .ok (.iload_n 2, 1) := by decide +kernel
theorem dX10_twoOf_169 : decode cX10_twoOf 169 = .ok (.if_icmp .ne 7, 3) := by decide +kernel
theorem dX10_twoOf_172 : decode cX10_twoOf 172 = .ok (.iconst 1, 1) := by decide +kernel
theorem dX10_twoOf_173 : decode cX10_twoOf 173 = .ok (.goto 4, 3) := by decide +kernel
theorem dX10_twoOf_176 : decode cX10_twoOf 176 = .ok (.iconst 0, 1) := by decide +kernel
theorem dX10_twoOf_177 : decode cX10_twoOf 177 = .ok (.ireturn, 1) := by decide +kernel
theorem dX10_twoOf_178 : decode cX10_twoOf 178 = .ok (.iload_n 1, 1) := by decide +kernel
theorem dX10_twoOf_179 : decode cX10_twoOf 179 = .ok (.iload_n 2, 1) := by decide +kernel
theorem dX10_twoOf_180 : decode cX10_twoOf 180 = .ok (.if_icmp .le 7, 3) := by decide +kernel
theorem dX10_twoOf_183 : decode cX10_twoOf 183 = .ok (.iconst 1, 1) := by decide +kernel
theorem dX10_twoOf_184 : decode cX10_twoOf 184 = .ok (.goto 4, 3) := by decide +kernel
theorem dX10_twoOf_187 : decode cX10_twoOf 187 = .ok (.iconst 0, 1) := by decide +kernel
theorem dX10_twoOf_188 : decode cX10_twoOf 188 = .ok (.ireturn, 1) := by decide +kernel
theorem dX10_twoOf_189 : decode cX10_twoOf 189 = .ok (.iload_n 1, 1) := by decide +kernel
theorem dX10_twoOf_190 : decode cX10_twoOf 190 = .ok (.ifCond .eq 11, 3) := by decide +kernel
theorem dX10_twoOf_193 : decode cX10_twoOf 193 = .ok (.iload_n 2, 1) := by decide +kernel
theorem dX10_twoOf_194 : decode cX10_twoOf 194 = .ok (.ifCond .eq 7, 3) := by decide +kernel
theorem dX10_twoOf_197 : decode cX10_twoOf 197 = .ok (.iconst 1, 1) := by decide +kernel
theorem dX10_twoOf_198 : decode cX10_twoOf 198 = .ok (.goto 4, 3) := by decide +kernel
theorem dX10_twoOf_201 : decode cX10_twoOf 201 = .ok (.iconst 0, 1) := by decide +kernel
theorem dX10_twoOf_202 : decode cX10_twoOf 202 = .ok (.ireturn, 1) := by decide +kernel
theorem dX10_twoOf_203 : decode cX10_twoOf 203 = .ok (.iload_n 1, 1) := by decide +kernel
theorem dX10_twoOf_204 : decode cX10_twoOf 204 = .ok (.ifCond .ne 7, 3) := by decide +kernel
theorem dX10_twoOf_207 : decode cX10_twoOf 207 = .ok (.iload_n 2, 1) := by decide +kernel
theorem dX10_twoOf_208 : decode cX10_twoOf 208 = .ok (.ifCond .eq 7, 3) := by decide +kernel
theorem dX10_twoOf_211 : decode cX10_twoOf 211 = .ok (.iconst 1, 1) := by decide +kernel
theorem dX10_twoOf_212 : decode cX10_twoOf 212 = .ok (.goto 4, 3) := by decide +kernel
theorem dX10_twoOf_215 : decode cX10_twoOf 215 = .ok (.iconst 0, 1) := by decide +kernel
theorem dX10_twoOf_216 : decode cX10_twoOf 216 = .ok (.ireturn, 1) := by decide +kernel
theorem dX10_works_0 : decode cX10_works 0 = .ok (.iconst 0, 1) := by decide +kernel
theorem dX10_works_1 : decode cX10_works 1 = .ok (.istore_n 2, 1) := by decide +kernel
theorem dX10_works_2 : decode cX10_works 2 = .ok (.iconst 0, 1) := by decide +kernel
theorem dX10_works_3 : decode cX10_works 3 = .ok (.istore_n 3, 1) := by decide +kernel
theorem dX10_works_4 : decode cX10_works 4 = .ok (.iload_n 3, 1) := by decide +kernel
theorem dX10_works_5 : decode cX10_works 5 = .ok (.aload_n 0, 1) := by decide +kernel
theorem dX10_works_6 : decode cX10_works 6 = .ok (.getfield 9, 3) := by decide +kernel
theorem dX10_works_9 : decode cX10_works 9 = .ok (.iload_n 1, 1) := by decide +kernel
theorem dX10_works_10 : decode cX10_works 10 = .ok (.iaload, 1) := by decide +kernel
theorem dX10_works_11 : decode cX10_works 11 = .ok (.if_icmp .ge 144, 3) := by decide +kernel
theorem dX10_works_14 : decode cX10_works 14 = .ok (.aload_n 0, 1) := by decide +kernel
theorem dX10_works_15 : decode cX10_works 15 = .ok (.getfield 9, 3) := by decide +kernel
theorem dX10_works_18 : decode cX10_works 18 = .ok (.iload_n 1, 1) := by decide +kernel
theorem dX10_works_19 : decode cX10_works 19 = .ok (.iconst 1, 1) := by decide +kernel
theorem dX10_works_20 : decode cX10_works 20 = .ok (.iadd, 1) := by decide +kernel
theorem dX10_works_21 : decode cX10_works 21 = .ok (.iload_n 3, 1) := by decide +kernel
theorem dX10_works_22 : decode cX10_works 22 = .ok (.iadd, 1) := by decide +kernel
theorem dX10_works_23 : decode cX10_works 23 = .ok (.iaload, 1) := by decide +kernel
theorem dX10_works_24 : decode cX10_works 24 = .ok (.istore 4, 2) := by decide +kernel
theorem dX10_works_26 : decode cX10_works 26 = .ok (.iload 4, 2) := by decide +kernel
theorem dX10_works_28 : decode cX10_works 28 = .ok (.iconst 1, 1) := by decide +kernel
theorem dX10_works_29 : decode cX10_works 29 = .ok (.if_icmp .eq 9, 3) := by decide +kernel
theorem dX10_works_32 : decode cX10_works 32 = .ok (.iload 4, 2) := by decide +kernel
theorem dX10_works_34 : decode cX10_works 34 = .ok (.iconst 2, 1) := by decide +kernel
theorem dX10_works_35 : decode cX10_works 35 = .ok (.if_icmp .ne 51, 3) := by decide +kernel
theorem dX10_works_38 : decode cX10_works 38 = .ok (.aload_n 0, 1) := by decide +kernel
theorem dX10_works_39 : decode cX10_works 39 = .ok (.getfield 40, 3) := by decide +kernel
theorem dX10_works_42 : decode cX10_works 42 = .ok (.iload_n 2, 1) := by decide +kernel
theorem dX10_works_43 : decode cX10_works 43 = .ok (.iload 4, 2) := by decide +kernel
theorem dX10_works_45 : decode cX10_works 45 = .ok (.iconst 1, 1) := by decide +kernel
theorem dX10_works_46 : decode cX10_works 46 = .ok (.if_icmp .ne 17, 3) := by decide +kernel
theorem dX10_works_49 : decode cX10_works 49 = .ok (.aload_n 0, 1) := by decide +kernel
theorem dX10_works_50 : decode cX10_works 50 = .ok (.getfield 9, 3) := by decide +kernel
theorem dX10_works_53 : decode cX10_works 53 = .ok (.iload_n 1, 1) := by decide +kernel
theorem dX10_works_54 : decode cX10_works 54 = .ok (.bipush 61, 2) := by decide +kernel
theorem dX10_works_56 : decode cX10_works 56 = .ok (.iadd, 1) := by decide +kernel
theorem dX10_works_57 : decode cX10_works 57 = .ok (.iload_n 3, 1) := by decide +kernel
theorem dX10_works_58 : decode cX10_works 58 = .ok (.iadd, 1) := by decide +kernel
theorem dX10_works_59 : decode cX10_works 59 = .ok (.iaload, 1) := by decide +kernel
theorem dX10_works_60 : decode cX10_works 60 = .ok (.goto 19, 3) := by decide +kernel
theorem dX10_works_63 : decode cX10_works 63 = .ok (.aload_n 0, 1) := by decide +kernel
theorem dX10_works_64 : decode cX10_works 64 = .ok (.getfield 37, 3) := by decide +kernel
theorem dX10_works_67 : decode cX10_works 67 = .ok (.aload_n 0, 1) := by decide +kernel
theorem dX10_works_68 : decode cX10_works 68 = .ok (.getfield 9, 3) := by decide +kernel
theorem dX10_works_71 : decode cX10_works 71 = .ok (.iload_n 1, 1) := by decide +kernel
theorem dX10_works_72 : decode cX10_works 72 = .ok (.bipush 61, 2) := by decide +kernel
theorem dX10_works_74 : decode cX10_works 74 = .ok (.iadd, 1) := by decide +kernel
theorem dX10_works_75 : decode cX10_works 75 = .ok (.iload_n 3, 1) := by decide +kernel
theorem dX10_works_76 : decode cX10_works 76 = .ok (.iadd, 1) := by decide +kernel
theorem dX10_works_77 : decode cX10_works 77 = .ok (.iaload, 1) := by decide +kernel
theorem dX10_works_78 : decode cX10_works 78 = .ok (.iaload, 1) := by decide +kernel
theorem dX10_works_79 : decode cX10_works 79 = .ok (.iastore, 1) := by decide +kernel
theorem dX10_works_80 : decode cX10_works 80 = .ok (.iinc 2 1, 3) := by decide +kernel
theorem dX10_works_83 : decode cX10_works 83 = .ok (.goto 66, 3) := by decide +kernel
theorem dX10_works_86 : decode cX10_works 86 = .ok (.iload 4, 2) := by decide +kernel
theorem dX10_works_88 : decode cX10_works 88 = .ok (.iconst 3, 1) := by decide +kernel
theorem dX10_works_89 : decode cX10_works 89 = .ok (.if_icmp .ne 30, 3) := by decide +kernel
theorem dX10_works_92 : decode cX10_works 92 = .ok (.aload_n 0, 1) := by decide +kernel
theorem dX10_works_93 : decode cX10_works 93 = .ok (.getfield 40, 3) := by decide +kernel
theorem dX10_works_96 : decode cX10_works 96 = .ok (.iload_n 2, 1) := by decide +kernel
theorem dX10_works_97 : decode cX10_works 97 = .ok (.iconst 1, 1) := by decide +kernel
theorem dX10_works_98 : decode cX10_works 98 = .ok (.isub, 1) := by decide +kernel
theorem dX10_works_99 : decode cX10_works 99 = .ok (.aload_n 0, 1) := by decide +kernel
theorem dX10_works_100 : decode cX10_works 100 = .ok (.getfield 40, 3) := by decide +kernel
theorem dX10_works_103 : decode cX10_works 103 = .ok (.iload_n 2, 1) := by decide +kernel
theorem dX10_works_104 : decode cX10_works 104 = .ok (.iconst 1, 1) := by decide +kernel
theorem dX10_works_105 : decode cX10_works 105 = .ok (.isub, 1) := by decide +kernel
theorem dX10_works_106 : decode cX10_works 106 = .ok (.iaload, 1) := by decide +kernel
theorem dX10_works_107 : decode cX10_works 107 = .ok (.ifCond .ne 7, 3) := by decide +kernel
theorem dX10_works_110 : decode cX10_works 110 = .ok (.iconst 1, 1) := by decide +kernel
theorem dX10_works_111 : decode cX10_works 111 = .ok (.goto 4, 3) := by decide +kernel
theorem dX10_works_114 : decode cX10_works 114 = .ok (.iconst 0, 1) := by decide +kernel
theorem dX10_works_115 : decode cX10_works 115 = .ok (.iastore, 1) := by decide +kernel
theorem dX10_works_116 : decode cX10_works 116 = .ok (.goto 33, 3) := by decide +kernel
theorem dX10_works_119 : decode cX10_works 119 = .ok (.iinc 2 (-1), 3) := by decide +kernel
theorem dX10_works_122 : decode cX10_works 122 = .ok (.aload_n 0, 1) := by decide +kernel
theorem dX10_works_123 : decode cX10_works 123 = .ok (.getfield 40, 3) := by decide +kernel
theorem dX10_works_126 : decode cX10_works 126 = .ok (.iload_n 2, 1) := by decide +kernel
theorem dX10_works_127 : decode cX10_works 127 = .ok (.iconst 1, 1) := by decide +kernel
theorem dX10_works_128 : decode cX10_works 128 = .ok (.isub, 1) := by decide +kernel
theorem dX10_works_129 : decode cX10_works 129 = .ok (.iload 4, 2) := by decide +kernel
theorem dX10_works_131 : decode cX10_works 131 = .ok (.aload_n 0, 1) := by decide +kernel
theorem dX10_works_132 : decode cX10_works 132 = .ok (.getfield 40, 3) := by decide +kernel
theorem dX10_works_135 : decode cX10_works 135 = .ok (.iload_n 2, 1) := by decide +kernel
theorem dX10_works_136 : decode cX10_works 136 = .ok (.iconst 1, 1) := by decide +kernel
theorem dX10_works_137 : decode cX10_works 137 = .ok (.isub, 1) := by decide +kernel
theorem dX10_works_138 : decode cX10_works 138 = .ok (.iaload, 1) := by decide +kernel
theorem dX10_works_139 : decode cX10_works 139 = .ok (.aload_n 0, 1) := by decide +kernel
theorem dX10_works_140 : decode cX10_works 140 = .ok (.getfield 40, 3) := by decide +kernel
theorem dX10_works_143 : decode cX10_works 143 = .ok (.iload_n 2, 1) := by decide +kernel
theorem dX10_works_144 : decode cX10_works 144 = .ok (.iaload, 1) := by decide +kernel
theorem dX10_works_145 : decode cX10_works 145 = .ok (.invokestatic 172, 3) := by decide +kernel
theorem dX10_works_148 : decode cX10_works 148 = .ok (.iastore, 1) := by decide +kernel
theorem dX10_works_149 : decode cX10_works 149 = .ok (.iinc 3 1, 3) := by decide +kernel
theorem dX10_works_152 : decode cX10_works 152 = .ok (.goto (-148), 3) := by decide +kernel
theorem dX10_works_155 : decode cX10_works 155 = .ok (.aload_n 0, 1) := by decide +kernel
theorem dX10_works_156 : decode cX10_works 156 = .ok (.getfield 40, 3) := by decide +kernel
theorem dX10_works_159 : decode cX10_works 159 = .ok (.iconst 0, 1) := by decide +kernel
theorem dX10_works_160 : decode cX10_works 160 = .ok (.iaload, 1) := by decide +kernel
theorem dX10_works_161 : decode cX10_works 161 = .ok (.ireturn, 1) := by decide +kernel
theorem dX10_gives_0 : decode cX10_gives 0 = .ok (.sipush 143, 3) := by decide +kernel
theorem dX10_gives_3 : decode cX10_gives 3 = .ok (.bipush 121, 2) := by decide +kernel
theorem dX10_gives_5 : decode cX10_gives 5 = .ok (.iload_n 1, 1) := by decide +kernel
theorem dX10_gives_6 : decode cX10_gives 6 = .ok (.imul, 1) := by decide +kernel
theorem dX10_gives_7 : decode cX10_gives 7 = .ok (.iadd, 1) := by decide +kernel
theorem dX10_gives_8 : decode cX10_gives 8 = .ok (.istore 5, 2) := by decide +kernel
theorem dX10_gives_10 : decode cX10_gives 10 = .ok (.aload_n 0, 1) := by decide +kernel
theorem dX10_gives_11 : decode cX10_gives 11 = .ok (.getfield 37, 3) := by decide +kernel
theorem dX10_gives_14 : decode cX10_gives 14 = .ok (.iconst 0, 1) := by decide +kernel
theorem dX10_gives_15 : decode cX10_gives 15 = .ok (.iload_n 2, 1) := by decide +kernel
theorem dX10_gives_16 : decode cX10_gives 16 = .ok (.iastore, 1) := by decide +kernel
theorem dX10_gives_17 : decode cX10_gives 17 = .ok (.aload_n 0, 1) := by decide +kernel
theorem dX10_gives_18 : decode cX10_gives 18 = .ok (.getfield 37, 3) := by decide +kernel
theorem dX10_gives_21 : decode cX10_gives 21 = .ok (.iconst 1, 1) := by decide +kernel
theorem dX10_gives_22 : decode cX10_gives 22 = .ok (.iload_n 3, 1) := by decide +kernel
theorem dX10_gives_23 : decode cX10_gives 23 = .ok (.iastore, 1) := by decide +kernel
theorem dX10_gives_24 : decode cX10_gives 24 = .ok (.aload_n 0, 1) := by decide +kernel
theorem dX10_gives_25 : decode cX10_gives 25 = .ok (.getfield 37, 3) := by decide +kernel
theorem dX10_gives_28 : decode cX10_gives 28 = .ok (.iconst 2, 1) := by decide +kernel
theorem dX10_gives_29 : decode cX10_gives 29 = .ok (.iload 4, 2) := by decide +kernel
theorem dX10_gives_31 : decode cX10_gives 31 = .ok (.iastore, 1) := by decide +kernel
theorem dX10_gives_32 : decode cX10_gives 32 = .ok (.aload_n 0, 1) := by decide +kernel
theorem dX10_gives_33 : decode cX10_gives 33 = .ok (.getfield 9, 3) := by decide +kernel
theorem dX10_gives_36 : decode cX10_gives 36 = .ok (.iload 5, 2) := by decide +kernel
theorem dX10_gives_38 : decode cX10_gives 38 = .ok (.iaload, 1) := by decide +kernel
theorem dX10_gives_39 : decode cX10_gives 39 = .ok (.ifCond .le 12, 3) := by decide +kernel
theorem dX10_gives_42 : decode cX10_gives 42 = .ok (.aload_n 0, 1) := by decide +kernel
theorem dX10_gives_43 : decode cX10_gives 43 = .ok (.iload 5, 2) := by decide +kernel
theorem dX10_gives_45 : decode cX10_gives 45 = .ok (.invokevirtual 176, 3) := by decide +kernel
theorem dX10_gives_48 : decode cX10_gives 48 = .ok (.goto 4, 3) := by decide +kernel
theorem dX10_gives_51 : decode cX10_gives 51 = .ok (.iload_n 2, 1) := by decide +kernel
theorem dX10_gives_52 : decode cX10_gives 52 = .ok (.iconst 0, 1) := by decide +kernel
theorem dX10_gives_53 : decode cX10_gives 53 = .ok (.bipush 40, 2) := by decide +kernel
theorem dX10_gives_55 : decode cX10_gives 55 = .ok (.invokestatic 179, 3) := by decide +kernel
theorem dX10_gives_58 : decode cX10_gives 58 = .ok (.ireturn, 1) := by decide +kernel
theorem dX10_law_0 : decode cX10_law 0 = .ok (.iload_n 1, 1) := by decide +kernel
theorem dX10_law_1 : decode cX10_law 1 = .ok (.iconst 0, 1) := by decide +kernel
theorem dX10_law_2 : decode cX10_law 2 = .ok (.iconst 1, 1) := by decide +kernel
theorem dX10_law_3 : decode cX10_law 3 = .ok (.invokestatic 51, 3) := by decide +kernel
theorem dX10_law_6 : decode cX10_law 6 = .ok (.ifCond .eq 15, 3) := by decide +kernel
theorem dX10_law_9 : decode cX10_law 9 = .ok (.aload_n 0, 1) := by decide +kernel
theorem dX10_law_10 : decode cX10_law 10 = .ok (.iload_n 1, 1) := by decide +kernel
theorem dX10_law_11 : decode cX10_law 11 = .ok (.iload_n 2, 1) := by decide +kernel
theorem dX10_law_12 : decode cX10_law 12 = .ok (.iload_n 3, 1) := by decide +kernel
theorem dX10_law_13 : decode cX10_law 13 = .ok (.iload 4, 2) := by decide +kernel
theorem dX10_law_15 : decode cX10_law 15 = .ok (.invokevirtual 79, 3) := by decide +kernel
theorem dX10_law_18 : decode cX10_law 18 = .ok (.goto 9, 3) := by decide +kernel
theorem dX10_law_21 : decode cX10_law 21 = .ok (.aload_n 0, 1) := by decide +kernel
theorem dX10_law_22 : decode cX10_law 22 = .ok (.ldc 90, 2) := by decide +kernel
theorem dX10_law_24 : decode cX10_law 24 = .ok (.invokevirtual 91, 3) := by decide +kernel
theorem dX10_law_27 : decode cX10_law 27 = .ok (.ireturn, 1) := by decide +kernel
theorem dX10_goes_0 : decode cX10_goes 0 = .ok (.aload_n 0, 1) := by decide +kernel
theorem dX10_goes_1 : decode cX10_goes 1 = .ok (.getfield 9, 3) := by decide +kernel
theorem dX10_goes_4 : decode cX10_goes 4 = .ok (.bipush 7, 2) := by decide +kernel
theorem dX10_goes_6 : decode cX10_goes 6 = .ok (.iconst 2, 1) := by decide +kernel
theorem dX10_goes_7 : decode cX10_goes 7 = .ok (.aload_n 0, 1) := by decide +kernel
theorem dX10_goes_8 : decode cX10_goes 8 = .ok (.getfield 9, 3) := by decide +kernel
theorem dX10_goes_11 : decode cX10_goes 11 = .ok (.iconst 0, 1) := by decide +kernel
theorem dX10_goes_12 : decode cX10_goes 12 = .ok (.iaload, 1) := by decide +kernel
theorem dX10_goes_13 : decode cX10_goes 13 = .ok (.bipush 6, 2) := by decide +kernel
theorem dX10_goes_15 : decode cX10_goes 15 = .ok (.irem, 1) := by decide +kernel
theorem dX10_goes_16 : decode cX10_goes 16 = .ok (.imul, 1) := by decide +kernel
theorem dX10_goes_17 : decode cX10_goes 17 = .ok (.iadd, 1) := by decide +kernel
theorem dX10_goes_18 : decode cX10_goes 18 = .ok (.iaload, 1) := by decide +kernel
theorem dX10_goes_19 : decode cX10_goes 19 = .ok (.istore_n 1, 1) := by decide +kernel
theorem dX10_goes_20 : decode cX10_goes 20 = .ok (.aload_n 0, 1) := by decide +kernel
theorem dX10_goes_21 : decode cX10_goes 21 = .ok (.getfield 9, 3) := by decide +kernel
theorem dX10_goes_24 : decode cX10_goes 24 = .ok (.bipush 7, 2) := by decide +kernel
theorem dX10_goes_26 : decode cX10_goes 26 = .ok (.iconst 2, 1) := by decide +kernel
theorem dX10_goes_27 : decode cX10_goes 27 = .ok (.aload_n 0, 1) := by decide +kernel
theorem dX10_goes_28 : decode cX10_goes 28 = .ok (.getfield 9, 3) := by decide +kernel
theorem dX10_goes_31 : decode cX10_goes 31 = .ok (.iconst 0, 1) := by decide +kernel
theorem dX10_goes_32 : decode cX10_goes 32 = .ok (.iaload, 1) := by decide +kernel
theorem dX10_goes_33 : decode cX10_goes 33 = .ok (.bipush 6, 2) := by decide +kernel
theorem dX10_goes_35 : decode cX10_goes 35 = .ok (.irem, 1) := by decide +kernel
theorem dX10_goes_36 : decode cX10_goes 36 = .ok (.imul, 1) := by decide +kernel
theorem dX10_goes_37 : decode cX10_goes 37 = .ok (.iadd, 1) := by decide +kernel
theorem dX10_goes_38 : decode cX10_goes 38 = .ok (.iconst 1, 1) := by decide +kernel
theorem dX10_goes_39 : decode cX10_goes 39 = .ok (.iadd, 1) := by decide +kernel
theorem dX10_goes_40 : decode cX10_goes 40 = .ok (.iaload, 1) := by decide +kernel
theorem dX10_goes_41 : decode cX10_goes 41 = .ok (.istore_n 2, 1) := by decide +kernel
theorem dX10_goes_42 : decode cX10_goes 42 = .ok (.iload_n 1, 1) := by decide +kernel
theorem dX10_goes_43 : decode cX10_goes 43 = .ok (.iload_n 2, 1) := by decide +kernel
theorem dX10_goes_44 : decode cX10_goes 44 = .ok (.if_icmp .eq 80, 3) := by decide +kernel
theorem dX10_goes_47 : decode cX10_goes 47 = .ok (.aload_n 0, 1) := by decide +kernel
theorem dX10_goes_48 : decode cX10_goes 48 = .ok (.iload_n 1, 1) := by decide +kernel
theorem dX10_goes_49 : decode cX10_goes 49 = .ok (.invokevirtual 99, 3) := by decide +kernel
theorem dX10_goes_52 : decode cX10_goes 52 = .ok (.ifCond .eq 72, 3) := by decide +kernel
theorem dX10_goes_55 : decode cX10_goes 55 = .ok (.aload_n 0, 1) := by decide +kernel
theorem dX10_goes_56 : decode cX10_goes 56 = .ok (.iload_n 2, 1) := by decide +kernel
theorem dX10_goes_57 : decode cX10_goes 57 = .ok (.invokevirtual 99, 3) := by decide +kernel
theorem dX10_goes_60 : decode cX10_goes 60 = .ok (.ifCond .eq 64, 3) := by decide +kernel
theorem dX10_goes_63 : decode cX10_goes 63 = .ok (.aload_n 0, 1) := by decide +kernel
theorem dX10_goes_64 : decode cX10_goes 64 = .ok (.iload_n 2, 1) := by decide +kernel
theorem dX10_goes_65 : decode cX10_goes 65 = .ok (.iload_n 1, 1) := by decide +kernel
theorem dX10_goes_66 : decode cX10_goes 66 = .ok (.invokevirtual 115, 3) := by decide +kernel
theorem dX10_goes_69 : decode cX10_goes 69 = .ok (.iconst 0, 1) := by decide +kernel
theorem dX10_goes_70 : decode cX10_goes 70 = .ok (.aload_n 0, 1) := by decide +kernel
theorem dX10_goes_71 : decode cX10_goes 71 = .ok (.getfield 9, 3) := by decide +kernel
theorem dX10_goes_74 : decode cX10_goes 74 = .ok (.iconst 3, 1) := by decide +kernel
theorem dX10_goes_75 : decode cX10_goes 75 = .ok (.iaload, 1) := by decide +kernel
theorem dX10_goes_76 : decode cX10_goes 76 = .ok (.invokestatic 179, 3) := by decide +kernel
theorem dX10_goes_79 : decode cX10_goes 79 = .ok (.istore_n 3, 1) := by decide +kernel
theorem dX10_goes_80 : decode cX10_goes 80 = .ok (.aload_n 0, 1) := by decide +kernel
theorem dX10_goes_81 : decode cX10_goes 81 = .ok (.iload_n 1, 1) := by decide +kernel
theorem dX10_goes_82 : decode cX10_goes 82 = .ok (.iconst 4, 1) := by decide +kernel
theorem dX10_goes_83 : decode cX10_goes 83 = .ok (.iload_n 3, 1) := by decide +kernel
theorem dX10_goes_84 : decode cX10_goes 84 = .ok (.aload_n 0, 1) := by decide +kernel
theorem dX10_goes_85 : decode cX10_goes 85 = .ok (.iload_n 1, 1) := by decide +kernel
theorem dX10_goes_86 : decode cX10_goes 86 = .ok (.invokevirtual 102, 3) := by decide +kernel
theorem dX10_goes_89 : decode cX10_goes 89 = .ok (.if_icmp .gt 16, 3) := by decide +kernel
theorem dX10_goes_92 : decode cX10_goes 92 = .ok (.aload_n 0, 1) := by decide +kernel
theorem dX10_goes_93 : decode cX10_goes 93 = .ok (.iload_n 1, 1) := by decide +kernel
theorem dX10_goes_94 : decode cX10_goes 94 = .ok (.iconst 4, 1) := by decide +kernel
theorem dX10_goes_95 : decode cX10_goes 95 = .ok (.invokevirtual 55, 3) := by decide +kernel
theorem dX10_goes_98 : decode cX10_goes 98 = .ok (.iconst 1, 1) := by decide +kernel
theorem dX10_goes_99 : decode cX10_goes 99 = .ok (.iload_n 2, 1) := by decide +kernel
theorem dX10_goes_100 : decode cX10_goes 100 = .ok (.ishl, 1) := by decide +kernel
theorem dX10_goes_101 : decode cX10_goes 101 = .ok (.ior, 1) := by decide +kernel
theorem dX10_goes_102 : decode cX10_goes 102 = .ok (.goto 9, 3) := by decide +kernel
theorem dX10_goes_105 : decode cX10_goes 105 = .ok (.aload_n 0, 1) := by decide +kernel
theorem dX10_goes_106 : decode cX10_goes 106 = .ok (.iload_n 1, 1) := by decide +kernel
theorem dX10_goes_107 : decode cX10_goes 107 = .ok (.iconst 4, 1) := by decide +kernel
theorem dX10_goes_108 : decode cX10_goes 108 = .ok (.invokevirtual 55, 3) := by decide +kernel
theorem dX10_goes_111 : decode cX10_goes 111 = .ok (.invokevirtual 95, 3) := by decide +kernel
theorem dX10_goes_114 : decode cX10_goes 114 = .ok (.aload_n 0, 1) := by decide +kernel
theorem dX10_goes_115 : decode cX10_goes 115 = .ok (.getfield 9, 3) := by decide +kernel
theorem dX10_goes_118 : decode cX10_goes 118 = .ok (.iconst 3, 1) := by decide +kernel
theorem dX10_goes_119 : decode cX10_goes 119 = .ok (.dup2, 1) := by decide +kernel
theorem dX10_goes_120 : decode cX10_goes 120 = .ok (.iaload, 1) := by decide +kernel
theorem dX10_goes_121 : decode cX10_goes 121 = .ok (.iload_n 3, 1) := by decide +kernel
theorem dX10_goes_122 : decode cX10_goes 122 = .ok (.isub, 1) := by decide +kernel
theorem dX10_goes_123 : decode cX10_goes 123 = .ok (.iastore, 1) := by decide +kernel
theorem dX10_goes_124 : decode cX10_goes 124 = .ok (.aload_n 0, 1) := by decide +kernel
theorem dX10_goes_125 : decode cX10_goes 125 = .ok (.getfield 9, 3) := by decide +kernel
theorem dX10_goes_128 : decode cX10_goes 128 = .ok (.iconst 3, 1) := by decide +kernel
theorem dX10_goes_129 : decode cX10_goes 129 = .ok (.aload_n 0, 1) := by decide +kernel
theorem dX10_goes_130 : decode cX10_goes 130 = .ok (.getfield 9, 3) := by decide +kernel
theorem dX10_goes_133 : decode cX10_goes 133 = .ok (.iconst 3, 1) := by decide +kernel
theorem dX10_goes_134 : decode cX10_goes 134 = .ok (.iaload, 1) := by decide +kernel
theorem dX10_goes_135 : decode cX10_goes 135 = .ok (.aload_n 0, 1) := by decide +kernel
theorem dX10_goes_136 : decode cX10_goes 136 = .ok (.getfield 9, 3) := by decide +kernel
theorem dX10_goes_139 : decode cX10_goes 139 = .ok (.iconst 4, 1) := by decide +kernel
theorem dX10_goes_140 : decode cX10_goes 140 = .ok (.iaload, 1) := by decide +kernel
theorem dX10_goes_141 : decode cX10_goes 141 = .ok (.iadd, 1) := by decide +kernel
theorem dX10_goes_142 : decode cX10_goes 142 = .ok (.iconst 0, 1) := by decide +kernel
theorem dX10_goes_143 : decode cX10_goes 143 = .ok (.sipush 999, 3) := by decide +kernel
theorem dX10_goes_146 : decode cX10_goes 146 = .ok (.invokestatic 179, 3) := by decide +kernel
theorem dX10_goes_149 : decode cX10_goes 149 = .ok (.iastore, 1) := by decide +kernel
theorem dX10_goes_150 : decode cX10_goes 150 = .ok (.aload_n 0, 1) := by decide +kernel
theorem dX10_goes_151 : decode cX10_goes 151 = .ok (.getfield 9, 3) := by decide +kernel
theorem dX10_goes_154 : decode cX10_goes 154 = .ok (.iconst 0, 1) := by decide +kernel
theorem dX10_goes_155 : decode cX10_goes 155 = .ok (.dup2, 1) := by decide +kernel
theorem dX10_goes_156 : decode cX10_goes 156 = .ok (.iaload, 1) := by decide +kernel
theorem dX10_goes_157 : decode cX10_goes 157 = .ok (.iconst 1, 1) := by decide +kernel
theorem dX10_goes_158 : decode cX10_goes 158 = .ok (.iadd, 1) := by decide +kernel
theorem dX10_goes_159 : decode cX10_goes 159 = .ok (.iastore, 1) := by decide +kernel
theorem dX10_goes_160 : decode cX10_goes 160 = .ok (.return_, 1) := by decide +kernel
theorem dX10_goesFor_0 : decode cX10_goesFor 0 = .ok (.iconst 0, 1) := by decide +kernel
theorem dX10_goesFor_1 : decode cX10_goesFor 1 = .ok (.istore_n 2, 1) := by decide +kernel
theorem dX10_goesFor_2 : decode cX10_goesFor 2 = .ok (.iload_n 2, 1) := by decide +kernel
theorem dX10_goesFor_3 : decode cX10_goesFor 3 = .ok (.iload_n 1, 1) := by decide +kernel
theorem dX10_goesFor_4 : decode cX10_goesFor 4 = .ok (.if_icmp .ge 13, 3) := by decide +kernel
theorem dX10_goesFor_7 : decode cX10_goesFor 7 = .ok (.aload_n 0, 1) := by decide +kernel
theorem dX10_goesFor_8 : decode cX10_goesFor 8 = .ok (.invokevirtual 182, 3) := by decide +kernel
theorem dX10_goesFor_11 : decode cX10_goesFor 11 = .ok (.iinc 2 1, 3) := by decide +kernel
theorem dX10_goesFor_14 : decode cX10_goesFor 14 = .ok (.goto (-12), 3) := by decide +kernel
theorem dX10_goesFor_17 : decode cX10_goesFor 17 = .ok (.return_, 1) := by decide +kernel
theorem dX10_years_0 : decode cX10_years 0 = .ok (.iload_n 1, 1) := by decide +kernel
theorem dX10_years_1 : decode cX10_years 1 = .ok (.iconst 1, 1) := by decide +kernel
theorem dX10_years_2 : decode cX10_years 2 = .ok (.bipush 60, 2) := by decide +kernel
theorem dX10_years_4 : decode cX10_years 4 = .ok (.invokestatic 51, 3) := by decide +kernel
theorem dX10_years_7 : decode cX10_years 7 = .ok (.ifCond .ne 10, 3) := by decide +kernel
theorem dX10_years_10 : decode cX10_years 10 = .ok (.aload_n 0, 1) := by decide +kernel
theorem dX10_years_11 : decode cX10_years 11 = .ok (.ldc 90, 2) := by decide +kernel
theorem dX10_years_13 : decode cX10_years 13 = .ok (.invokevirtual 91, 3) := by decide +kernel
theorem dX10_years_16 : decode cX10_years 16 = .ok (.ireturn, 1) := by decide +kernel
theorem dX10_years_17 : decode cX10_years 17 = .ok (.aload_n 0, 1) := by decide +kernel
theorem dX10_years_18 : decode cX10_years 18 = .ok (.getfield 9, 3) := by decide +kernel
theorem dX10_years_21 : decode cX10_years 21 = .ok (.iconst 0, 1) := by decide +kernel
theorem dX10_years_22 : decode cX10_years 22 = .ok (.iaload, 1) := by decide +kernel
theorem dX10_years_23 : decode cX10_years 23 = .ok (.iload_n 1, 1) := by decide +kernel
theorem dX10_years_24 : decode cX10_years 24 = .ok (.iadd, 1) := by decide +kernel
theorem dX10_years_25 : decode cX10_years 25 = .ok (.sipush 9999, 3) := by decide +kernel
theorem dX10_years_28 : decode cX10_years 28 = .ok (.if_icmp .le 10, 3) := by decide +kernel
theorem dX10_years_31 : decode cX10_years 31 = .ok (.aload_n 0, 1) := by decide +kernel
theorem dX10_years_32 : decode cX10_years 32 = .ok (.ldc 109, 2) := by decide +kernel
theorem dX10_years_34 : decode cX10_years 34 = .ok (.invokevirtual 91, 3) := by decide +kernel
theorem dX10_years_37 : decode cX10_years 37 = .ok (.ireturn, 1) := by decide +kernel
theorem dX10_years_38 : decode cX10_years 38 = .ok (.aload_n 0, 1) := by decide +kernel
theorem dX10_years_39 : decode cX10_years 39 = .ok (.iload_n 1, 1) := by decide +kernel
theorem dX10_years_40 : decode cX10_years 40 = .ok (.invokevirtual 185, 3) := by decide +kernel
theorem dX10_years_43 : decode cX10_years 43 = .ok (.aload_n 0, 1) := by decide +kernel
theorem dX10_years_44 : decode cX10_years 44 = .ok (.invokevirtual 188, 3) := by decide +kernel
theorem dX10_years_47 : decode cX10_years 47 = .ok (.ireturn, 1) := by decide +kernel
theorem dX10_draw_0 : decode cX10_draw 0 = .ok (.aload_n 0, 1) := by decide +kernel
theorem dX10_draw_1 : decode cX10_draw 1 = .ok (.getfield 9, 3) := by decide +kernel
theorem dX10_draw_4 : decode cX10_draw 4 = .ok (.iconst 1, 1) := by decide +kernel
theorem dX10_draw_5 : decode cX10_draw 5 = .ok (.aload_n 0, 1) := by decide +kernel
theorem dX10_draw_6 : decode cX10_draw 6 = .ok (.getfield 9, 3) := by decide +kernel
theorem dX10_draw_9 : decode cX10_draw 9 = .ok (.iconst 1, 1) := by decide +kernel
theorem dX10_draw_10 : decode cX10_draw 10 = .ok (.iaload, 1) := by decide +kernel
theorem dX10_draw_11 : decode cX10_draw 11 = .ok (.ldc 191, 2) := by decide +kernel
theorem dX10_draw_13 : decode cX10_draw 13 = .ok (.imul, 1) := by decide +kernel
theorem dX10_draw_14 : decode cX10_draw 14 = .ok (.sipush 12345, 3) := by decide +kernel
theorem dX10_draw_17 : decode cX10_draw 17 = .ok (.iadd, 1) := by decide +kernel
theorem dX10_draw_18 : decode cX10_draw 18 = .ok (.iastore, 1) := by decide +kernel
theorem dX10_draw_19 : decode cX10_draw 19 = .ok (.aload_n 0, 1) := by decide +kernel
theorem dX10_draw_20 : decode cX10_draw 20 = .ok (.getfield 9, 3) := by decide +kernel
theorem dX10_draw_23 : decode cX10_draw 23 = .ok (.iconst 1, 1) := by decide +kernel
theorem dX10_draw_24 : decode cX10_draw 24 = .ok (.iaload, 1) := by decide +kernel
theorem dX10_draw_25 : decode cX10_draw 25 = .ok (.bipush 8, 2) := by decide +kernel
theorem dX10_draw_27 : decode cX10_draw 27 = .ok (.iushr, 1) := by decide +kernel
theorem dX10_draw_28 : decode cX10_draw 28 = .ok (.ireturn, 1) := by decide +kernel
theorem dX10_drawn_0 : decode cX10_drawn 0 = .ok (.bipush 7, 2) := by decide +kernel
theorem dX10_drawn_2 : decode cX10_drawn 2 = .ok (.iconst 2, 1) := by decide +kernel
theorem dX10_drawn_3 : decode cX10_drawn 3 = .ok (.aload_n 0, 1) := by decide +kernel
theorem dX10_drawn_4 : decode cX10_drawn 4 = .ok (.getfield 9, 3) := by decide +kernel
theorem dX10_drawn_7 : decode cX10_drawn 7 = .ok (.iconst 0, 1) := by decide +kernel
theorem dX10_drawn_8 : decode cX10_drawn 8 = .ok (.iaload, 1) := by decide +kernel
theorem dX10_drawn_9 : decode cX10_drawn 9 = .ok (.bipush 6, 2) := by decide +kernel
theorem dX10_drawn_11 : decode cX10_drawn 11 = .ok (.irem, 1) := by decide +kernel
theorem dX10_drawn_12 : decode cX10_drawn 12 = .ok (.imul, 1) := by decide +kernel
theorem dX10_drawn_13 : decode cX10_drawn 13 = .ok (.iadd, 1) := by decide +kernel
theorem dX10_drawn_14 : decode cX10_drawn 14 = .ok (.istore_n 1, 1) := by decide +kernel
theorem dX10_drawn_15 : decode cX10_drawn 15 = .ok (.aload_n 0, 1) := by decide +kernel
theorem dX10_drawn_16 : decode cX10_drawn 16 = .ok (.getfield 9, 3) := by decide +kernel
theorem dX10_drawn_19 : decode cX10_drawn 19 = .ok (.iload_n 1, 1) := by decide +kernel
theorem dX10_drawn_20 : decode cX10_drawn 20 = .ok (.aload_n 0, 1) := by decide +kernel
theorem dX10_drawn_21 : decode cX10_drawn 21 = .ok (.invokevirtual 192, 3) := by decide +kernel
theorem dX10_drawn_24 : decode cX10_drawn 24 = .ok (.bipush 8, 2) := by decide +kernel
theorem dX10_drawn_26 : decode cX10_drawn 26 = .ok (.irem, 1) := by decide +kernel
theorem dX10_drawn_27 : decode cX10_drawn 27 = .ok (.iastore, 1) := by decide +kernel
theorem dX10_drawn_28 : decode cX10_drawn 28 = .ok (.aload_n 0, 1) := by decide +kernel
theorem dX10_drawn_29 : decode cX10_drawn 29 = .ok (.getfield 9, 3) := by decide +kernel
theorem dX10_drawn_32 : decode cX10_drawn 32 = .ok (.iload_n 1, 1) := by decide +kernel
theorem dX10_drawn_33 : decode cX10_drawn 33 = .ok (.iconst 1, 1) := by decide +kernel
theorem dX10_drawn_34 : decode cX10_drawn 34 = .ok (.iadd, 1) := by decide +kernel
theorem dX10_drawn_35 : decode cX10_drawn 35 = .ok (.aload_n 0, 1) := by decide +kernel
theorem dX10_drawn_36 : decode cX10_drawn 36 = .ok (.invokevirtual 192, 3) := by decide +kernel
theorem dX10_drawn_39 : decode cX10_drawn 39 = .ok (.bipush 8, 2) := by decide +kernel
theorem dX10_drawn_41 : decode cX10_drawn 41 = .ok (.irem, 1) := by decide +kernel
theorem dX10_drawn_42 : decode cX10_drawn 42 = .ok (.iastore, 1) := by decide +kernel
theorem dX10_drawn_43 : decode cX10_drawn 43 = .ok (.aload_n 0, 1) := by decide +kernel
theorem dX10_drawn_44 : decode cX10_drawn 44 = .ok (.invokevirtual 182, 3) := by decide +kernel
theorem dX10_drawn_47 : decode cX10_drawn 47 = .ok (.return_, 1) := by decide +kernel
theorem dX10_loose_0 : decode cX10_loose 0 = .ok (.iload_n 1, 1) := by decide +kernel
theorem dX10_loose_1 : decode cX10_loose 1 = .ok (.iconst 1, 1) := by decide +kernel
theorem dX10_loose_2 : decode cX10_loose 2 = .ok (.bipush 30, 2) := by decide +kernel
theorem dX10_loose_4 : decode cX10_loose 4 = .ok (.invokestatic 51, 3) := by decide +kernel
theorem dX10_loose_7 : decode cX10_loose 7 = .ok (.ifCond .ne 10, 3) := by decide +kernel
theorem dX10_loose_10 : decode cX10_loose 10 = .ok (.aload_n 0, 1) := by decide +kernel
theorem dX10_loose_11 : decode cX10_loose 11 = .ok (.ldc 90, 2) := by decide +kernel
theorem dX10_loose_13 : decode cX10_loose 13 = .ok (.invokevirtual 91, 3) := by decide +kernel
theorem dX10_loose_16 : decode cX10_loose 16 = .ok (.ireturn, 1) := by decide +kernel
theorem dX10_loose_17 : decode cX10_loose 17 = .ok (.aload_n 0, 1) := by decide +kernel
theorem dX10_loose_18 : decode cX10_loose 18 = .ok (.getfield 9, 3) := by decide +kernel
theorem dX10_loose_21 : decode cX10_loose 21 = .ok (.iconst 0, 1) := by decide +kernel
theorem dX10_loose_22 : decode cX10_loose 22 = .ok (.iaload, 1) := by decide +kernel
theorem dX10_loose_23 : decode cX10_loose 23 = .ok (.iload_n 1, 1) := by decide +kernel
theorem dX10_loose_24 : decode cX10_loose 24 = .ok (.iadd, 1) := by decide +kernel
theorem dX10_loose_25 : decode cX10_loose 25 = .ok (.sipush 9999, 3) := by decide +kernel
theorem dX10_loose_28 : decode cX10_loose 28 = .ok (.if_icmp .le 10, 3) := by decide +kernel
theorem dX10_loose_31 : decode cX10_loose 31 = .ok (.aload_n 0, 1) := by decide +kernel
theorem dX10_loose_32 : decode cX10_loose 32 = .ok (.ldc 109, 2) := by decide +kernel
theorem dX10_loose_34 : decode cX10_loose 34 = .ok (.invokevirtual 91, 3) := by decide +kernel
theorem dX10_loose_37 : decode cX10_loose 37 = .ok (.ireturn, 1) := by decide +kernel
theorem dX10_loose_38 : decode cX10_loose 38 = .ok (.iconst 0, 1) := by decide +kernel
theorem dX10_loose_39 : decode cX10_loose 39 = .ok (.istore_n 2, 1) := by decide +kernel
theorem dX10_loose_40 : decode cX10_loose 40 = .ok (.iload_n 2, 1) := by decide +kernel
theorem dX10_loose_41 : decode cX10_loose 41 = .ok (.iload_n 1, 1) := by decide +kernel
theorem dX10_loose_42 : decode cX10_loose 42 = .ok (.if_icmp .ge 13, 3) := by decide +kernel
theorem dX10_loose_45 : decode cX10_loose 45 = .ok (.aload_n 0, 1) := by decide +kernel
theorem dX10_loose_46 : decode cX10_loose 46 = .ok (.invokevirtual 195, 3) := by decide +kernel
theorem dX10_loose_49 : decode cX10_loose 49 = .ok (.iinc 2 1, 3) := by decide +kernel
theorem dX10_loose_52 : decode cX10_loose 52 = .ok (.goto (-12), 3) := by decide +kernel
theorem dX10_loose_55 : decode cX10_loose 55 = .ok (.aload_n 0, 1) := by decide +kernel
theorem dX10_loose_56 : decode cX10_loose 56 = .ok (.invokevirtual 188, 3) := by decide +kernel
theorem dX10_loose_59 : decode cX10_loose 59 = .ok (.ireturn, 1) := by decide +kernel
theorem dX10_year_0 : decode cX10_year 0 = .ok (.iload_n 1, 1) := by decide +kernel
theorem dX10_year_1 : decode cX10_year 1 = .ok (.iconst 0, 1) := by decide +kernel
theorem dX10_year_2 : decode cX10_year 2 = .ok (.sipush 9999, 3) := by decide +kernel
theorem dX10_year_5 : decode cX10_year 5 = .ok (.invokestatic 51, 3) := by decide +kernel
theorem dX10_year_8 : decode cX10_year 8 = .ok (.ifCond .eq 12, 3) := by decide +kernel
theorem dX10_year_11 : decode cX10_year 11 = .ok (.aload_n 0, 1) := by decide +kernel
theorem dX10_year_12 : decode cX10_year 12 = .ok (.iconst 0, 1) := by decide +kernel
theorem dX10_year_13 : decode cX10_year 13 = .ok (.iload_n 1, 1) := by decide +kernel
theorem dX10_year_14 : decode cX10_year 14 = .ok (.invokevirtual 105, 3) := by decide +kernel
theorem dX10_year_17 : decode cX10_year 17 = .ok (.goto 9, 3) := by decide +kernel
theorem dX10_year_20 : decode cX10_year 20 = .ok (.aload_n 0, 1) := by decide +kernel
theorem dX10_year_21 : decode cX10_year 21 = .ok (.ldc 90, 2) := by decide +kernel
theorem dX10_year_23 : decode cX10_year 23 = .ok (.invokevirtual 91, 3) := by decide +kernel
theorem dX10_year_26 : decode cX10_year 26 = .ok (.ireturn, 1) := by decide +kernel
theorem dX10_seed_0 : decode cX10_seed 0 = .ok (.aload_n 0, 1) := by decide +kernel
theorem dX10_seed_1 : decode cX10_seed 1 = .ok (.iconst 1, 1) := by decide +kernel
theorem dX10_seed_2 : decode cX10_seed 2 = .ok (.iload_n 1, 1) := by decide +kernel
theorem dX10_seed_3 : decode cX10_seed 3 = .ok (.invokevirtual 105, 3) := by decide +kernel
theorem dX10_seed_6 : decode cX10_seed 6 = .ok (.ireturn, 1) := by decide +kernel
theorem dX10_then_0 : decode cX10_then 0 = .ok (.aload_n 0, 1) := by decide +kernel
theorem dX10_then_1 : decode cX10_then 1 = .ok (.iload_n 1, 1) := by decide +kernel
theorem dX10_then_2 : decode cX10_then 2 = .ok (.invokevirtual 99, 3) := by decide +kernel
theorem dX10_then_5 : decode cX10_then 5 = .ok (.ifCond .eq 13, 3) := by decide +kernel
theorem dX10_then_8 : decode cX10_then 8 = .ok (.iload_n 2, 1) := by decide +kernel
theorem dX10_then_9 : decode cX10_then 9 = .ok (.iconst 0, 1) := by decide +kernel
theorem dX10_then_10 : decode cX10_then 10 = .ok (.bipush 60, 2) := by decide +kernel
theorem dX10_then_12 : decode cX10_then 12 = .ok (.invokestatic 51, 3) := by decide +kernel
theorem dX10_then_15 : decode cX10_then 15 = .ok (.ifCond .ne 10, 3) := by decide +kernel
theorem dX10_then_18 : decode cX10_then 18 = .ok (.aload_n 0, 1) := by decide +kernel
theorem dX10_then_19 : decode cX10_then 19 = .ok (.ldc 90, 2) := by decide +kernel
theorem dX10_then_21 : decode cX10_then 21 = .ok (.invokevirtual 91, 3) := by decide +kernel
theorem dX10_then_24 : decode cX10_then 24 = .ok (.ireturn, 1) := by decide +kernel
theorem dX10_then_25 : decode cX10_then 25 = .ok (.aload_n 0, 1) := by decide +kernel
theorem dX10_then_26 : decode cX10_then 26 = .ok (.invokevirtual 198, 3) := by decide +kernel
theorem dX10_then_29 : decode cX10_then 29 = .ok (.aload_n 0, 1) := by decide +kernel
theorem dX10_then_30 : decode cX10_then 30 = .ok (.iload_n 2, 1) := by decide +kernel
theorem dX10_then_31 : decode cX10_then 31 = .ok (.invokevirtual 185, 3) := by decide +kernel
theorem dX10_then_34 : decode cX10_then 34 = .ok (.aload_n 0, 1) := by decide +kernel
theorem dX10_then_35 : decode cX10_then 35 = .ok (.iload_n 1, 1) := by decide +kernel
theorem dX10_then_36 : decode cX10_then 36 = .ok (.iconst 4, 1) := by decide +kernel
theorem dX10_then_37 : decode cX10_then 37 = .ok (.invokevirtual 55, 3) := by decide +kernel
theorem dX10_then_40 : decode cX10_then 40 = .ok (.istore_n 3, 1) := by decide +kernel
theorem dX10_then_41 : decode cX10_then 41 = .ok (.aload_n 0, 1) := by decide +kernel
theorem dX10_then_42 : decode cX10_then 42 = .ok (.invokevirtual 201, 3) := by decide +kernel
theorem dX10_then_45 : decode cX10_then 45 = .ok (.iload_n 3, 1) := by decide +kernel
theorem dX10_then_46 : decode cX10_then 46 = .ok (.ireturn, 1) := by decide +kernel
theorem dX10_soonest_0 : decode cX10_soonest 0 = .ok (.aload_n 0, 1) := by decide +kernel
theorem dX10_soonest_1 : decode cX10_soonest 1 = .ok (.iload_n 1, 1) := by decide +kernel
theorem dX10_soonest_2 : decode cX10_soonest 2 = .ok (.invokevirtual 99, 3) := by decide +kernel
theorem dX10_soonest_5 : decode cX10_soonest 5 = .ok (.ifCond .eq 11, 3) := by decide +kernel
theorem dX10_soonest_8 : decode cX10_soonest 8 = .ok (.aload_n 0, 1) := by decide +kernel
theorem dX10_soonest_9 : decode cX10_soonest 9 = .ok (.iload_n 2, 1) := by decide +kernel
theorem dX10_soonest_10 : decode cX10_soonest 10 = .ok (.invokevirtual 99, 3) := by decide +kernel
theorem dX10_soonest_13 : decode cX10_soonest 13 = .ok (.ifCond .ne 10, 3) := by decide +kernel
theorem dX10_soonest_16 : decode cX10_soonest 16 = .ok (.aload_n 0, 1) := by decide +kernel
theorem dX10_soonest_17 : decode cX10_soonest 17 = .ok (.ldc 90, 2) := by decide +kernel
theorem dX10_soonest_19 : decode cX10_soonest 19 = .ok (.invokevirtual 91, 3) := by decide +kernel
theorem dX10_soonest_22 : decode cX10_soonest 22 = .ok (.ireturn, 1) := by decide +kernel
theorem dX10_soonest_23 : decode cX10_soonest 23 = .ok (.aload_n 0, 1) := by decide +kernel
theorem dX10_soonest_24 : decode cX10_soonest 24 = .ok (.invokevirtual 198, 3) := by decide +kernel
theorem dX10_soonest_27 : decode cX10_soonest 27 = .ok (.iconst 0, 1) := by decide +kernel
theorem dX10_soonest_28 : decode cX10_soonest 28 = .ok (.istore_n 3, 1) := by decide +kernel
theorem dX10_soonest_29 : decode cX10_soonest 29 = .ok (.iload_n 3, 1) := by decide +kernel
theorem dX10_soonest_30 : decode cX10_soonest 30 = .ok (.bipush 60, 2) := by decide +kernel
theorem dX10_soonest_32 : decode cX10_soonest 32 = .ok (.if_icmp .gt 26, 3) := by decide +kernel
theorem dX10_soonest_35 : decode cX10_soonest 35 = .ok (.aload_n 0, 1) := by decide +kernel
theorem dX10_soonest_36 : decode cX10_soonest 36 = .ok (.iload_n 1, 1) := by decide +kernel
theorem dX10_soonest_37 : decode cX10_soonest 37 = .ok (.iconst 4, 1) := by decide +kernel
theorem dX10_soonest_38 : decode cX10_soonest 38 = .ok (.invokevirtual 55, 3) := by decide +kernel
theorem dX10_soonest_41 : decode cX10_soonest 41 = .ok (.iload_n 2, 1) := by decide +kernel
theorem dX10_soonest_42 : decode cX10_soonest 42 = .ok (.ishr, 1) := by decide +kernel
theorem dX10_soonest_43 : decode cX10_soonest 43 = .ok (.iconst 1, 1) := by decide +kernel
theorem dX10_soonest_44 : decode cX10_soonest 44 = .ok (.iand, 1) := by decide +kernel
theorem dX10_soonest_45 : decode cX10_soonest 45 = .ok (.ifCond .ne 13, 3) := by decide +kernel
theorem dX10_soonest_48 : decode cX10_soonest 48 = .ok (.aload_n 0, 1) := by decide +kernel
theorem dX10_soonest_49 : decode cX10_soonest 49 = .ok (.invokevirtual 182, 3) := by decide +kernel
theorem dX10_soonest_52 : decode cX10_soonest 52 = .ok (.iinc 3 1, 3) := by decide +kernel
theorem dX10_soonest_55 : decode cX10_soonest 55 = .ok (.goto (-26), 3) := by decide +kernel
theorem dX10_soonest_58 : decode cX10_soonest 58 = .ok (.aload_n 0, 1) := by decide +kernel
theorem dX10_soonest_59 : decode cX10_soonest 59 = .ok (.invokevirtual 201, 3) := by decide +kernel
theorem dX10_soonest_62 : decode cX10_soonest 62 = .ok (.iload_n 3, 1) := by decide +kernel
theorem dX10_soonest_63 : decode cX10_soonest 63 = .ok (.bipush 60, 2) := by decide +kernel
theorem dX10_soonest_65 : decode cX10_soonest 65 = .ok (.if_icmp .le 12, 3) := by decide +kernel
theorem dX10_soonest_68 : decode cX10_soonest 68 = .ok (.aload_n 0, 1) := by decide +kernel
theorem dX10_soonest_69 : decode cX10_soonest 69 = .ok (.ldc 114, 2) := by decide +kernel
theorem dX10_soonest_71 : decode cX10_soonest 71 = .ok (.invokevirtual 91, 3) := by decide +kernel
theorem dX10_soonest_74 : decode cX10_soonest 74 = .ok (.goto 4, 3) := by decide +kernel
theorem dX10_soonest_77 : decode cX10_soonest 77 = .ok (.iload_n 3, 1) := by decide +kernel
theorem dX10_soonest_78 : decode cX10_soonest 78 = .ok (.ireturn, 1) := by decide +kernel
theorem dX10_match_0 : decode cX10_match 0 = .ok (.aload_n 0, 1) := by decide +kernel
theorem dX10_match_1 : decode cX10_match 1 = .ok (.iload_n 1, 1) := by decide +kernel
theorem dX10_match_2 : decode cX10_match 2 = .ok (.invokevirtual 99, 3) := by decide +kernel
theorem dX10_match_5 : decode cX10_match 5 = .ok (.ifCond .eq 20, 3) := by decide +kernel
theorem dX10_match_8 : decode cX10_match 8 = .ok (.aload_n 0, 1) := by decide +kernel
theorem dX10_match_9 : decode cX10_match 9 = .ok (.iload_n 2, 1) := by decide +kernel
theorem dX10_match_10 : decode cX10_match 10 = .ok (.invokevirtual 99, 3) := by decide +kernel
theorem dX10_match_13 : decode cX10_match 13 = .ok (.ifCond .eq 12, 3) := by decide +kernel
theorem dX10_match_16 : decode cX10_match 16 = .ok (.iload_n 3, 1) := by decide +kernel
theorem dX10_match_17 : decode cX10_match 17 = .ok (.iconst 0, 1) := by decide +kernel
theorem dX10_match_18 : decode cX10_match 18 = .ok (.iconst 1, 1) := by decide +kernel
theorem dX10_match_19 : decode cX10_match 19 = .ok (.invokestatic 51, 3) := by decide +kernel
theorem dX10_match_22 : decode cX10_match 22 = .ok (.ifCond .ne 10, 3) := by decide +kernel
theorem dX10_match_25 : decode cX10_match 25 = .ok (.aload_n 0, 1) := by decide +kernel
theorem dX10_match_26 : decode cX10_match 26 = .ok (.ldc 90, 2) := by decide +kernel
theorem dX10_match_28 : decode cX10_match 28 = .ok (.invokevirtual 91, 3) := by decide +kernel
theorem dX10_match_31 : decode cX10_match 31 = .ok (.ireturn, 1) := by decide +kernel
theorem dX10_match_32 : decode cX10_match 32 = .ok (.aload_n 0, 1) := by decide +kernel
theorem dX10_match_33 : decode cX10_match 33 = .ok (.invokevirtual 198, 3) := by decide +kernel
theorem dX10_match_36 : decode cX10_match 36 = .ok (.aload_n 0, 1) := by decide +kernel
theorem dX10_match_37 : decode cX10_match 37 = .ok (.iload_n 1, 1) := by decide +kernel
theorem dX10_match_38 : decode cX10_match 38 = .ok (.iload_n 2, 1) := by decide +kernel
theorem dX10_match_39 : decode cX10_match 39 = .ok (.invokevirtual 73, 3) := by decide +kernel
theorem dX10_match_42 : decode cX10_match 42 = .ok (.istore 4, 2) := by decide +kernel
theorem dX10_match_44 : decode cX10_match 44 = .ok (.iconst (-1), 1) := by decide +kernel
theorem dX10_match_45 : decode cX10_match 45 = .ok (.istore 5, 2) := by decide +kernel
theorem dX10_match_47 : decode cX10_match 47 = .ok (.iconst 0, 1) := by decide +kernel
theorem dX10_match_48 : decode cX10_match 48 = .ok (.istore 6, 2) := by decide +kernel
theorem dX10_match_50 : decode cX10_match 50 = .ok (.iload 6, 2) := by decide +kernel
theorem dX10_match_52 : decode cX10_match 52 = .ok (.aload_n 0, 1) := by decide +kernel
theorem dX10_match_53 : decode cX10_match 53 = .ok (.getfield 9, 3) := by decide +kernel
theorem dX10_match_56 : decode cX10_match 56 = .ok (.iconst 2, 1) := by decide +kernel
theorem dX10_match_57 : decode cX10_match 57 = .ok (.iaload, 1) := by decide +kernel
theorem dX10_match_58 : decode cX10_match 58 = .ok (.if_icmp .ge 110, 3) := by decide +kernel
theorem dX10_match_61 : decode cX10_match 61 = .ok (.iload 6, 2) := by decide +kernel
theorem dX10_match_63 : decode cX10_match 63 = .ok (.iconst 1, 1) := by decide +kernel
theorem dX10_match_64 : decode cX10_match 64 = .ok (.iadd, 1) := by decide +kernel
theorem dX10_match_65 : decode cX10_match 65 = .ok (.istore 7, 2) := by decide +kernel
theorem dX10_match_67 : decode cX10_match 67 = .ok (.iload 7, 2) := by decide +kernel
theorem dX10_match_69 : decode cX10_match 69 = .ok (.aload_n 0, 1) := by decide +kernel
theorem dX10_match_70 : decode cX10_match 70 = .ok (.getfield 9, 3) := by decide +kernel
theorem dX10_match_73 : decode cX10_match 73 = .ok (.iconst 2, 1) := by decide +kernel
theorem dX10_match_74 : decode cX10_match 74 = .ok (.iaload, 1) := by decide +kernel
theorem dX10_match_75 : decode cX10_match 75 = .ok (.if_icmp .ge 87, 3) := by decide +kernel
theorem dX10_match_78 : decode cX10_match 78 = .ok (.aload_n 0, 1) := by decide +kernel
theorem dX10_match_79 : decode cX10_match 79 = .ok (.iload 6, 2) := by decide +kernel
theorem dX10_match_81 : decode cX10_match 81 = .ok (.iconst 3, 1) := by decide +kernel
theorem dX10_match_82 : decode cX10_match 82 = .ok (.invokevirtual 55, 3) := by decide +kernel
theorem dX10_match_85 : decode cX10_match 85 = .ok (.ifCond .ge 71, 3) := by decide +kernel
theorem dX10_match_88 : decode cX10_match 88 = .ok (.aload_n 0, 1) := by decide +kernel
theorem dX10_match_89 : decode cX10_match 89 = .ok (.iload 7, 2) := by decide +kernel
theorem dX10_match_91 : decode cX10_match 91 = .ok (.iconst 3, 1) := by decide +kernel
theorem dX10_match_92 : decode cX10_match 92 = .ok (.invokevirtual 55, 3) := by decide +kernel
theorem dX10_match_95 : decode cX10_match 95 = .ok (.ifCond .ge 61, 3) := by decide +kernel
theorem dX10_match_98 : decode cX10_match 98 = .ok (.aload_n 0, 1) := by decide +kernel
theorem dX10_match_99 : decode cX10_match 99 = .ok (.iload 6, 2) := by decide +kernel
theorem dX10_match_101 : decode cX10_match 101 = .ok (.iload 7, 2) := by decide +kernel
theorem dX10_match_103 : decode cX10_match 103 = .ok (.invokevirtual 110, 3) := by decide +kernel
theorem dX10_match_106 : decode cX10_match 106 = .ok (.aload_n 0, 1) := by decide +kernel
theorem dX10_match_107 : decode cX10_match 107 = .ok (.iload_n 1, 1) := by decide +kernel
theorem dX10_match_108 : decode cX10_match 108 = .ok (.iload_n 2, 1) := by decide +kernel
theorem dX10_match_109 : decode cX10_match 109 = .ok (.invokevirtual 73, 3) := by decide +kernel
theorem dX10_match_112 : decode cX10_match 112 = .ok (.istore 8, 2) := by decide +kernel
theorem dX10_match_114 : decode cX10_match 114 = .ok (.aload_n 0, 1) := by decide +kernel
theorem dX10_match_115 : decode cX10_match 115 = .ok (.invokevirtual 201, 3) := by decide +kernel
theorem dX10_match_118 : decode cX10_match 118 = .ok (.iload 8, 2) := by decide +kernel
theorem dX10_match_120 : decode cX10_match 120 = .ok (.iload 4, 2) := by decide +kernel
theorem dX10_match_122 : decode cX10_match 122 = .ok (.if_icmp .ge 14, 3) := by decide +kernel
theorem dX10_match_125 : decode cX10_match 125 = .ok (.bipush 10, 2) := by decide +kernel
theorem dX10_match_127 : decode cX10_match 127 = .ok (.iload 6, 2) := by decide +kernel
theorem dX10_match_129 : decode cX10_match 129 = .ok (.imul, 1) := by decide +kernel
theorem dX10_match_130 : decode cX10_match 130 = .ok (.iload 7, 2) := by decide +kernel
theorem dX10_match_132 : decode cX10_match 132 = .ok (.iadd, 1) := by decide +kernel
theorem dX10_match_133 : decode cX10_match 133 = .ok (.goto 5, 3) := by decide +kernel
theorem dX10_match_136 : decode cX10_match 136 = .ok (.iload 5, 2) := by decide +kernel
theorem dX10_match_138 : decode cX10_match 138 = .ok (.istore 5, 2) := by decide +kernel
theorem dX10_match_140 : decode cX10_match 140 = .ok (.iload 8, 2) := by decide +kernel
theorem dX10_match_142 : decode cX10_match 142 = .ok (.iload 4, 2) := by decide +kernel
theorem dX10_match_144 : decode cX10_match 144 = .ok (.if_icmp .ge 8, 3) := by decide +kernel
theorem dX10_match_147 : decode cX10_match 147 = .ok (.iload 8, 2) := by decide +kernel
theorem dX10_match_149 : decode cX10_match 149 = .ok (.goto 5, 3) := by decide +kernel
theorem dX10_match_152 : decode cX10_match 152 = .ok (.iload 4, 2) := by decide +kernel
theorem dX10_match_154 : decode cX10_match 154 = .ok (.istore 4, 2) := by decide +kernel
theorem dX10_match_156 : decode cX10_match 156 = .ok (.iinc 7 1, 3) := by decide +kernel
theorem dX10_match_159 : decode cX10_match 159 = .ok (.goto (-92), 3) := by decide +kernel
theorem dX10_match_162 : decode cX10_match 162 = .ok (.iinc 6 1, 3) := by decide +kernel
theorem dX10_match_165 : decode cX10_match 165 = .ok (.goto (-115), 3) := by decide +kernel
theorem dX10_match_168 : decode cX10_match 168 = .ok (.iload 5, 2) := by decide +kernel
theorem dX10_match_170 : decode cX10_match 170 = .ok (.ifCond .ge 12, 3) := by decide +kernel
theorem dX10_match_173 : decode cX10_match 173 = .ok (.aload_n 0, 1) := by decide +kernel
theorem dX10_match_174 : decode cX10_match 174 = .ok (.ldc 114, 2) := by decide +kernel
theorem dX10_match_176 : decode cX10_match 176 = .ok (.invokevirtual 91, 3) := by decide +kernel
theorem dX10_match_179 : decode cX10_match 179 = .ok (.goto 14, 3) := by decide +kernel
theorem dX10_match_182 : decode cX10_match 182 = .ok (.iload_n 3, 1) := by decide +kernel
theorem dX10_match_183 : decode cX10_match 183 = .ok (.ifCond .ne 8, 3) := by decide +kernel
theorem dX10_match_186 : decode cX10_match 186 = .ok (.iload 5, 2) := by decide +kernel
theorem dX10_match_188 : decode cX10_match 188 = .ok (.goto 5, 3) := by decide +kernel
theorem dX10_match_191 : decode cX10_match 191 = .ok (.iload 4, 2) := by decide +kernel
theorem dX10_match_193 : decode cX10_match 193 = .ok (.ireturn, 1) := by decide +kernel
theorem dX10_orderFor_0 : decode cX10_orderFor 0 = .ok (.aload_n 0, 1) := by decide +kernel
theorem dX10_orderFor_1 : decode cX10_orderFor 1 = .ok (.iload_n 1, 1) := by decide +kernel
theorem dX10_orderFor_2 : decode cX10_orderFor 2 = .ok (.invokevirtual 99, 3) := by decide +kernel
theorem dX10_orderFor_5 : decode cX10_orderFor 5 = .ok (.ifCond .eq 13, 3) := by decide +kernel
theorem dX10_orderFor_8 : decode cX10_orderFor 8 = .ok (.iload_n 2, 1) := by decide +kernel
theorem dX10_orderFor_9 : decode cX10_orderFor 9 = .ok (.iconst 0, 1) := by decide +kernel
theorem dX10_orderFor_10 : decode cX10_orderFor 10 = .ok (.bipush 40, 2) := by decide +kernel
theorem dX10_orderFor_12 : decode cX10_orderFor 12 = .ok (.invokestatic 51, 3) := by decide +kernel
theorem dX10_orderFor_15 : decode cX10_orderFor 15 = .ok (.ifCond .ne 10, 3) := by decide +kernel
theorem dX10_orderFor_18 : decode cX10_orderFor 18 = .ok (.aload_n 0, 1) := by decide +kernel
theorem dX10_orderFor_19 : decode cX10_orderFor 19 = .ok (.ldc 90, 2) := by decide +kernel
theorem dX10_orderFor_21 : decode cX10_orderFor 21 = .ok (.invokevirtual 91, 3) := by decide +kernel
theorem dX10_orderFor_24 : decode cX10_orderFor 24 = .ok (.ireturn, 1) := by decide +kernel
theorem dX10_orderFor_25 : decode cX10_orderFor 25 = .ok (.aload_n 0, 1) := by decide +kernel
theorem dX10_orderFor_26 : decode cX10_orderFor 26 = .ok (.invokevirtual 198, 3) := by decide +kernel
theorem dX10_orderFor_29 : decode cX10_orderFor 29 = .ok (.aload_n 0, 1) := by decide +kernel
theorem dX10_orderFor_30 : decode cX10_orderFor 30 = .ok (.iload_n 1, 1) := by decide +kernel
theorem dX10_orderFor_31 : decode cX10_orderFor 31 = .ok (.invokevirtual 204, 3) := by decide +kernel
theorem dX10_orderFor_34 : decode cX10_orderFor 34 = .ok (.istore_n 3, 1) := by decide +kernel
theorem dX10_orderFor_35 : decode cX10_orderFor 35 = .ok (.iconst 0, 1) := by decide +kernel
theorem dX10_orderFor_36 : decode cX10_orderFor 36 = .ok (.istore 4, 2) := by decide +kernel
theorem dX10_orderFor_38 : decode cX10_orderFor 38 = .ok (.iload 4, 2) := by decide +kernel
theorem dX10_orderFor_40 : decode cX10_orderFor 40 = .ok (.bipush 40, 2) := by decide +kernel
theorem dX10_orderFor_42 : decode cX10_orderFor 42 = .ok (.if_icmp .gt 50, 3) := by decide +kernel
theorem dX10_orderFor_45 : decode cX10_orderFor 45 = .ok (.aload_n 0, 1) := by decide +kernel
theorem dX10_orderFor_46 : decode cX10_orderFor 46 = .ok (.getfield 9, 3) := by decide +kernel
theorem dX10_orderFor_49 : decode cX10_orderFor 49 = .ok (.iconst 4, 1) := by decide +kernel
theorem dX10_orderFor_50 : decode cX10_orderFor 50 = .ok (.iload 4, 2) := by decide +kernel
theorem dX10_orderFor_52 : decode cX10_orderFor 52 = .ok (.iastore, 1) := by decide +kernel
theorem dX10_orderFor_53 : decode cX10_orderFor 53 = .ok (.aload_n 0, 1) := by decide +kernel
theorem dX10_orderFor_54 : decode cX10_orderFor 54 = .ok (.iload_n 2, 1) := by decide +kernel
theorem dX10_orderFor_55 : decode cX10_orderFor 55 = .ok (.invokevirtual 185, 3) := by decide +kernel
theorem dX10_orderFor_58 : decode cX10_orderFor 58 = .ok (.aload_n 0, 1) := by decide +kernel
theorem dX10_orderFor_59 : decode cX10_orderFor 59 = .ok (.iload_n 1, 1) := by decide +kernel
theorem dX10_orderFor_60 : decode cX10_orderFor 60 = .ok (.invokevirtual 204, 3) := by decide +kernel
theorem dX10_orderFor_63 : decode cX10_orderFor 63 = .ok (.iload_n 3, 1) := by decide +kernel
theorem dX10_orderFor_64 : decode cX10_orderFor 64 = .ok (.if_icmp .ne 7, 3) := by decide +kernel
theorem dX10_orderFor_67 : decode cX10_orderFor 67 = .ok (.iconst 1, 1) := by decide +kernel
theorem dX10_orderFor_68 : decode cX10_orderFor 68 = .ok (.goto 4, 3) := by decide +kernel
theorem dX10_orderFor_71 : decode cX10_orderFor 71 = .ok (.iconst 0, 1) := by decide +kernel
theorem dX10_orderFor_72 : decode cX10_orderFor 72 = .ok (.istore 5, 2) := by decide +kernel
theorem dX10_orderFor_74 : decode cX10_orderFor 74 = .ok (.aload_n 0, 1) := by decide +kernel
theorem dX10_orderFor_75 : decode cX10_orderFor 75 = .ok (.invokevirtual 201, 3) := by decide +kernel
theorem dX10_orderFor_78 : decode cX10_orderFor 78 = .ok (.iload 5, 2) := by decide +kernel
theorem dX10_orderFor_80 : decode cX10_orderFor 80 = .ok (.ifCond .eq 6, 3) := by decide +kernel
theorem dX10_orderFor_83 : decode cX10_orderFor 83 = .ok (.iload 4, 2) := by decide +kernel
theorem dX10_orderFor_85 : decode cX10_orderFor 85 = .ok (.ireturn, 1) := by decide +kernel
theorem dX10_orderFor_86 : decode cX10_orderFor 86 = .ok (.iinc 4 1, 3) := by decide +kernel
theorem dX10_orderFor_89 : decode cX10_orderFor 89 = .ok (.goto (-51), 3) := by decide +kernel
theorem dX10_orderFor_92 : decode cX10_orderFor 92 = .ok (.aload_n 0, 1) := by decide +kernel
theorem dX10_orderFor_93 : decode cX10_orderFor 93 = .ok (.ldc 114, 2) := by decide +kernel
theorem dX10_orderFor_95 : decode cX10_orderFor 95 = .ok (.invokevirtual 91, 3) := by decide +kernel
theorem dX10_orderFor_98 : decode cX10_orderFor 98 = .ok (.ireturn, 1) := by decide +kernel
theorem dX10_seers_0 : decode cX10_seers 0 = .ok (.aload_n 0, 1) := by decide +kernel
theorem dX10_seers_1 : decode cX10_seers 1 = .ok (.iload_n 1, 1) := by decide +kernel
theorem dX10_seers_2 : decode cX10_seers 2 = .ok (.invokevirtual 99, 3) := by decide +kernel
theorem dX10_seers_5 : decode cX10_seers 5 = .ok (.ifCond .eq 11, 3) := by decide +kernel
theorem dX10_seers_8 : decode cX10_seers 8 = .ok (.aload_n 0, 1) := by decide +kernel
theorem dX10_seers_9 : decode cX10_seers 9 = .ok (.iload_n 1, 1) := by decide +kernel
theorem dX10_seers_10 : decode cX10_seers 10 = .ok (.invokevirtual 204, 3) := by decide +kernel
theorem dX10_seers_13 : decode cX10_seers 13 = .ok (.goto 9, 3) := by decide +kernel
theorem dX10_seers_16 : decode cX10_seers 16 = .ok (.aload_n 0, 1) := by decide +kernel
theorem dX10_seers_17 : decode cX10_seers 17 = .ok (.ldc 90, 2) := by decide +kernel
theorem dX10_seers_19 : decode cX10_seers 19 = .ok (.invokevirtual 91, 3) := by decide +kernel
theorem dX10_seers_22 : decode cX10_seers 22 = .ok (.ireturn, 1) := by decide +kernel
theorem dX10_seenBy_0 : decode cX10_seenBy 0 = .ok (.iconst 0, 1) := by decide +kernel
theorem dX10_seenBy_1 : decode cX10_seenBy 1 = .ok (.istore_n 2, 1) := by decide +kernel
theorem dX10_seenBy_2 : decode cX10_seenBy 2 = .ok (.iconst 0, 1) := by decide +kernel
theorem dX10_seenBy_3 : decode cX10_seenBy 3 = .ok (.istore_n 3, 1) := by decide +kernel
theorem dX10_seenBy_4 : decode cX10_seenBy 4 = .ok (.iload_n 3, 1) := by decide +kernel
theorem dX10_seenBy_5 : decode cX10_seenBy 5 = .ok (.aload_n 0, 1) := by decide +kernel
theorem dX10_seenBy_6 : decode cX10_seenBy 6 = .ok (.getfield 9, 3) := by decide +kernel
theorem dX10_seenBy_9 : decode cX10_seenBy 9 = .ok (.iconst 2, 1) := by decide +kernel
theorem dX10_seenBy_10 : decode cX10_seenBy 10 = .ok (.iaload, 1) := by decide +kernel
theorem dX10_seenBy_11 : decode cX10_seenBy 11 = .ok (.if_icmp .ge 31, 3) := by decide +kernel
theorem dX10_seenBy_14 : decode cX10_seenBy 14 = .ok (.iload_n 2, 1) := by decide +kernel
theorem dX10_seenBy_15 : decode cX10_seenBy 15 = .ok (.iload_n 1, 1) := by decide +kernel
theorem dX10_seenBy_16 : decode cX10_seenBy 16 = .ok (.iload_n 3, 1) := by decide +kernel
theorem dX10_seenBy_17 : decode cX10_seenBy 17 = .ok (.ishr, 1) := by decide +kernel
theorem dX10_seenBy_18 : decode cX10_seenBy 18 = .ok (.iconst 1, 1) := by decide +kernel
theorem dX10_seenBy_19 : decode cX10_seenBy 19 = .ok (.iand, 1) := by decide +kernel
theorem dX10_seenBy_20 : decode cX10_seenBy 20 = .ok (.iconst 1, 1) := by decide +kernel
theorem dX10_seenBy_21 : decode cX10_seenBy 21 = .ok (.if_icmp .ne 12, 3) := by decide +kernel
theorem dX10_seenBy_24 : decode cX10_seenBy 24 = .ok (.aload_n 0, 1) := by decide +kernel
theorem dX10_seenBy_25 : decode cX10_seenBy 25 = .ok (.iload_n 3, 1) := by decide +kernel
theorem dX10_seenBy_26 : decode cX10_seenBy 26 = .ok (.iconst 4, 1) := by decide +kernel
theorem dX10_seenBy_27 : decode cX10_seenBy 27 = .ok (.invokevirtual 55, 3) := by decide +kernel
theorem dX10_seenBy_30 : decode cX10_seenBy 30 = .ok (.goto 4, 3) := by decide +kernel
theorem dX10_seenBy_33 : decode cX10_seenBy 33 = .ok (.iconst 0, 1) := by decide +kernel
theorem dX10_seenBy_34 : decode cX10_seenBy 34 = .ok (.ior, 1) := by decide +kernel
theorem dX10_seenBy_35 : decode cX10_seenBy 35 = .ok (.istore_n 2, 1) := by decide +kernel
theorem dX10_seenBy_36 : decode cX10_seenBy 36 = .ok (.iinc 3 1, 3) := by decide +kernel
theorem dX10_seenBy_39 : decode cX10_seenBy 39 = .ok (.goto (-35), 3) := by decide +kernel
theorem dX10_seenBy_42 : decode cX10_seenBy 42 = .ok (.iload_n 2, 1) := by decide +kernel
theorem dX10_seenBy_43 : decode cX10_seenBy 43 = .ok (.ireturn, 1) := by decide +kernel
theorem dX10_everybody_0 : decode cX10_everybody 0 = .ok (.iconst 1, 1) := by decide +kernel
theorem dX10_everybody_1 : decode cX10_everybody 1 = .ok (.aload_n 0, 1) := by decide +kernel
theorem dX10_everybody_2 : decode cX10_everybody 2 = .ok (.getfield 9, 3) := by decide +kernel
theorem dX10_everybody_5 : decode cX10_everybody 5 = .ok (.iconst 2, 1) := by decide +kernel
theorem dX10_everybody_6 : decode cX10_everybody 6 = .ok (.iaload, 1) := by decide +kernel
theorem dX10_everybody_7 : decode cX10_everybody 7 = .ok (.ishl, 1) := by decide +kernel
theorem dX10_everybody_8 : decode cX10_everybody 8 = .ok (.iconst 1, 1) := by decide +kernel
theorem dX10_everybody_9 : decode cX10_everybody 9 = .ok (.isub, 1) := by decide +kernel
theorem dX10_everybody_10 : decode cX10_everybody 10 = .ok (.ireturn, 1) := by decide +kernel
theorem dX10_witnesses_0 : decode cX10_witnesses 0 = .ok (.iload_n 1, 1) := by decide +kernel
theorem dX10_witnesses_1 : decode cX10_witnesses 1 = .ok (.iconst 0, 1) := by decide +kernel
theorem dX10_witnesses_2 : decode cX10_witnesses 2 = .ok (.aload_n 0, 1) := by decide +kernel
theorem dX10_witnesses_3 : decode cX10_witnesses 3 = .ok (.invokevirtual 207, 3) := by decide +kernel
theorem dX10_witnesses_6 : decode cX10_witnesses 6 = .ok (.invokestatic 51, 3) := by decide +kernel
theorem dX10_witnesses_9 : decode cX10_witnesses 9 = .ok (.ifCond .ne 10, 3) := by decide +kernel
theorem dX10_witnesses_12 : decode cX10_witnesses 12 = .ok (.aload_n 0, 1) := by decide +kernel
theorem dX10_witnesses_13 : decode cX10_witnesses 13 = .ok (.ldc 90, 2) := by decide +kernel
theorem dX10_witnesses_15 : decode cX10_witnesses 15 = .ok (.invokevirtual 91, 3) := by decide +kernel
theorem dX10_witnesses_18 : decode cX10_witnesses 18 = .ok (.ireturn, 1) := by decide +kernel
theorem dX10_witnesses_19 : decode cX10_witnesses 19 = .ok (.iconst (-1), 1) := by decide +kernel
theorem dX10_witnesses_20 : decode cX10_witnesses 20 = .ok (.istore_n 2, 1) := by decide +kernel
theorem dX10_witnesses_21 : decode cX10_witnesses 21 = .ok (.iconst 0, 1) := by decide +kernel
theorem dX10_witnesses_22 : decode cX10_witnesses 22 = .ok (.istore_n 3, 1) := by decide +kernel
theorem dX10_witnesses_23 : decode cX10_witnesses 23 = .ok (.iload_n 3, 1) := by decide +kernel
theorem dX10_witnesses_24 : decode cX10_witnesses 24 = .ok (.aload_n 0, 1) := by decide +kernel
theorem dX10_witnesses_25 : decode cX10_witnesses 25 = .ok (.invokevirtual 207, 3) := by decide +kernel
theorem dX10_witnesses_28 : decode cX10_witnesses 28 = .ok (.if_icmp .gt 54, 3) := by decide +kernel
theorem dX10_witnesses_31 : decode cX10_witnesses 31 = .ok (.iload_n 2, 1) := by decide +kernel
theorem dX10_witnesses_32 : decode cX10_witnesses 32 = .ok (.ifCond .lt 14, 3) := by decide +kernel
theorem dX10_witnesses_35 : decode cX10_witnesses 35 = .ok (.iload_n 3, 1) := by decide +kernel
theorem dX10_witnesses_36 : decode cX10_witnesses 36 = .ok (.invokestatic 67, 3) := by decide +kernel
theorem dX10_witnesses_39 : decode cX10_witnesses 39 = .ok (.iload_n 2, 1) := by decide +kernel
theorem dX10_witnesses_40 : decode cX10_witnesses 40 = .ok (.invokestatic 67, 3) := by decide +kernel
theorem dX10_witnesses_43 : decode cX10_witnesses 43 = .ok (.if_icmp .ge 7, 3) := by decide +kernel
theorem dX10_witnesses_46 : decode cX10_witnesses 46 = .ok (.iconst 1, 1) := by decide +kernel
theorem dX10_witnesses_47 : decode cX10_witnesses 47 = .ok (.goto 4, 3) := by decide +kernel
theorem dX10_witnesses_50 : decode cX10_witnesses 50 = .ok (.iconst 0, 1) := by decide +kernel
theorem dX10_witnesses_51 : decode cX10_witnesses 51 = .ok (.istore 4, 2) := by decide +kernel
theorem dX10_witnesses_53 : decode cX10_witnesses 53 = .ok (.iload 4, 2) := by decide +kernel
theorem dX10_witnesses_55 : decode cX10_witnesses 55 = .ok (.ifCond .eq 19, 3) := by decide +kernel
theorem dX10_witnesses_58 : decode cX10_witnesses 58 = .ok (.iload_n 1, 1) := by decide +kernel
theorem dX10_witnesses_59 : decode cX10_witnesses 59 = .ok (.aload_n 0, 1) := by decide +kernel
theorem dX10_witnesses_60 : decode cX10_witnesses 60 = .ok (.iload_n 3, 1) := by decide +kernel
theorem dX10_witnesses_61 : decode cX10_witnesses 61 = .ok (.invokevirtual 210, 3) := by decide +kernel
theorem dX10_witnesses_64 : decode cX10_witnesses 64 = .ok (.iconst (-1), 1) := by decide +kernel
theorem dX10_witnesses_65 : decode cX10_witnesses 65 = .ok (.ixor, 1) := by decide +kernel
theorem dX10_witnesses_66 : decode cX10_witnesses 66 = .ok (.iand, 1) := by decide +kernel
theorem dX10_witnesses_67 : decode cX10_witnesses 67 = .ok (.ifCond .ne 7, 3) := by decide +kernel
theorem dX10_witnesses_70 : decode cX10_witnesses 70 = .ok (.iload_n 3, 1) := by decide +kernel
theorem dX10_witnesses_71 : decode cX10_witnesses 71 = .ok (.goto 4, 3) := by decide +kernel
theorem dX10_witnesses_74 : decode cX10_witnesses 74 = .ok (.iload_n 2, 1) := by decide +kernel
theorem dX10_witnesses_75 : decode cX10_witnesses 75 = .ok (.istore_n 2, 1) := by decide +kernel
theorem dX10_witnesses_76 : decode cX10_witnesses 76 = .ok (.iinc 3 1, 3) := by decide +kernel
theorem dX10_witnesses_79 : decode cX10_witnesses 79 = .ok (.goto (-56), 3) := by decide +kernel
theorem dX10_witnesses_82 : decode cX10_witnesses 82 = .ok (.iload_n 2, 1) := by decide +kernel
theorem dX10_witnesses_83 : decode cX10_witnesses 83 = .ok (.ifCond .ge 12, 3) := by decide +kernel
theorem dX10_witnesses_86 : decode cX10_witnesses 86 = .ok (.aload_n 0, 1) := by decide +kernel
theorem dX10_witnesses_87 : decode cX10_witnesses 87 = .ok (.ldc 114, 2) := by decide +kernel
theorem dX10_witnesses_89 : decode cX10_witnesses 89 = .ok (.invokevirtual 91, 3) := by decide +kernel
theorem dX10_witnesses_92 : decode cX10_witnesses 92 = .ok (.goto 4, 3) := by decide +kernel
theorem dX10_witnesses_95 : decode cX10_witnesses 95 = .ok (.iload_n 2, 1) := by decide +kernel
theorem dX10_witnesses_96 : decode cX10_witnesses 96 = .ok (.ireturn, 1) := by decide +kernel
theorem dX10_odds_0 : decode cX10_odds 0 = .ok (.aload_n 0, 1) := by decide +kernel
theorem dX10_odds_1 : decode cX10_odds 1 = .ok (.iload_n 1, 1) := by decide +kernel
theorem dX10_odds_2 : decode cX10_odds 2 = .ok (.invokevirtual 99, 3) := by decide +kernel
theorem dX10_odds_5 : decode cX10_odds 5 = .ok (.ifCond .eq 12, 3) := by decide +kernel
theorem dX10_odds_8 : decode cX10_odds 8 = .ok (.iload_n 2, 1) := by decide +kernel
theorem dX10_odds_9 : decode cX10_odds 9 = .ok (.iconst 0, 1) := by decide +kernel
theorem dX10_odds_10 : decode cX10_odds 10 = .ok (.iconst 1, 1) := by decide +kernel
theorem dX10_odds_11 : decode cX10_odds 11 = .ok (.invokestatic 51, 3) := by decide +kernel
theorem dX10_odds_14 : decode cX10_odds 14 = .ok (.ifCond .ne 10, 3) := by decide +kernel
theorem dX10_odds_17 : decode cX10_odds 17 = .ok (.aload_n 0, 1) := by decide +kernel
theorem dX10_odds_18 : decode cX10_odds 18 = .ok (.ldc 90, 2) := by decide +kernel
theorem dX10_odds_20 : decode cX10_odds 20 = .ok (.invokevirtual 91, 3) := by decide +kernel
theorem dX10_odds_23 : decode cX10_odds 23 = .ok (.ireturn, 1) := by decide +kernel
theorem dX10_odds_24 : decode cX10_odds 24 = .ok (.aload_n 0, 1) := by decide +kernel
theorem dX10_odds_25 : decode cX10_odds 25 = .ok (.getfield 9, 3) := by decide +kernel
theorem dX10_odds_28 : decode cX10_odds 28 = .ok (.iconst 2, 1) := by decide +kernel
theorem dX10_odds_29 : decode cX10_odds 29 = .ok (.iaload, 1) := by decide +kernel
theorem dX10_odds_30 : decode cX10_odds 30 = .ok (.iconst 1, 1) := by decide +kernel
theorem dX10_odds_31 : decode cX10_odds 31 = .ok (.isub, 1) := by decide +kernel
theorem dX10_odds_32 : decode cX10_odds 32 = .ok (.istore_n 3, 1) := by decide +kernel
theorem dX10_odds_33 : decode cX10_odds 33 = .ok (.iload_n 3, 1) := by decide +kernel
theorem dX10_odds_34 : decode cX10_odds 34 = .ok (.ifCond .ne 10, 3) := by decide +kernel
theorem dX10_odds_37 : decode cX10_odds 37 = .ok (.aload_n 0, 1) := by decide +kernel
theorem dX10_odds_38 : decode cX10_odds 38 = .ok (.ldc 109, 2) := by decide +kernel
theorem dX10_odds_40 : decode cX10_odds 40 = .ok (.invokevirtual 91, 3) := by decide +kernel
theorem dX10_odds_43 : decode cX10_odds 43 = .ok (.ireturn, 1) := by decide +kernel
theorem dX10_odds_44 : decode cX10_odds 44 = .ok (.iconst 0, 1) := by decide +kernel
theorem dX10_odds_45 : decode cX10_odds 45 = .ok (.istore 4, 2) := by decide +kernel
theorem dX10_odds_47 : decode cX10_odds 47 = .ok (.iconst 0, 1) := by decide +kernel
theorem dX10_odds_48 : decode cX10_odds 48 = .ok (.istore 5, 2) := by decide +kernel
theorem dX10_odds_50 : decode cX10_odds 50 = .ok (.iload 5, 2) := by decide +kernel
theorem dX10_odds_52 : decode cX10_odds 52 = .ok (.aload_n 0, 1) := by decide +kernel
theorem dX10_odds_53 : decode cX10_odds 53 = .ok (.getfield 9, 3) := by decide +kernel
theorem dX10_odds_56 : decode cX10_odds 56 = .ok (.iconst 2, 1) := by decide +kernel
theorem dX10_odds_57 : decode cX10_odds 57 = .ok (.iaload, 1) := by decide +kernel
theorem dX10_odds_58 : decode cX10_odds 58 = .ok (.if_icmp .ge 40, 3) := by decide +kernel
theorem dX10_odds_61 : decode cX10_odds 61 = .ok (.iload 4, 2) := by decide +kernel
theorem dX10_odds_63 : decode cX10_odds 63 = .ok (.iload 5, 2) := by decide +kernel
theorem dX10_odds_65 : decode cX10_odds 65 = .ok (.iload_n 1, 1) := by decide +kernel
theorem dX10_odds_66 : decode cX10_odds 66 = .ok (.if_icmp .eq 22, 3) := by decide +kernel
theorem dX10_odds_69 : decode cX10_odds 69 = .ok (.aload_n 0, 1) := by decide +kernel
theorem dX10_odds_70 : decode cX10_odds 70 = .ok (.iload 5, 2) := by decide +kernel
theorem dX10_odds_72 : decode cX10_odds 72 = .ok (.iload_n 1, 1) := by decide +kernel
theorem dX10_odds_73 : decode cX10_odds 73 = .ok (.invokevirtual 115, 3) := by decide +kernel
theorem dX10_odds_76 : decode cX10_odds 76 = .ok (.aload_n 0, 1) := by decide +kernel
theorem dX10_odds_77 : decode cX10_odds 77 = .ok (.iload_n 1, 1) := by decide +kernel
theorem dX10_odds_78 : decode cX10_odds 78 = .ok (.invokevirtual 102, 3) := by decide +kernel
theorem dX10_odds_81 : decode cX10_odds 81 = .ok (.if_icmp .gt 7, 3) := by decide +kernel
theorem dX10_odds_84 : decode cX10_odds 84 = .ok (.iconst 1, 1) := by decide +kernel
theorem dX10_odds_85 : decode cX10_odds 85 = .ok (.goto 4, 3) := by decide +kernel
theorem dX10_odds_88 : decode cX10_odds 88 = .ok (.iconst 0, 1) := by decide +kernel
theorem dX10_odds_89 : decode cX10_odds 89 = .ok (.iadd, 1) := by decide +kernel
theorem dX10_odds_90 : decode cX10_odds 90 = .ok (.istore 4, 2) := by decide +kernel
theorem dX10_odds_92 : decode cX10_odds 92 = .ok (.iinc 5 1, 3) := by decide +kernel
theorem dX10_odds_95 : decode cX10_odds 95 = .ok (.goto (-45), 3) := by decide +kernel
theorem dX10_odds_98 : decode cX10_odds 98 = .ok (.iload_n 3, 1) := by decide +kernel
theorem dX10_odds_99 : decode cX10_odds 99 = .ok (.istore 5, 2) := by decide +kernel
theorem dX10_odds_101 : decode cX10_odds 101 = .ok (.iload 5, 2) := by decide +kernel
theorem dX10_odds_103 : decode cX10_odds 103 = .ok (.iconst 1, 1) := by decide +kernel
theorem dX10_odds_104 : decode cX10_odds 104 = .ok (.if_icmp .le 36, 3) := by decide +kernel
theorem dX10_odds_107 : decode cX10_odds 107 = .ok (.iload 4, 2) := by decide +kernel
theorem dX10_odds_109 : decode cX10_odds 109 = .ok (.iload 5, 2) := by decide +kernel
theorem dX10_odds_111 : decode cX10_odds 111 = .ok (.irem, 1) := by decide +kernel
theorem dX10_odds_112 : decode cX10_odds 112 = .ok (.ifCond .ne 22, 3) := by decide +kernel
theorem dX10_odds_115 : decode cX10_odds 115 = .ok (.iload_n 3, 1) := by decide +kernel
theorem dX10_odds_116 : decode cX10_odds 116 = .ok (.iload 5, 2) := by decide +kernel
theorem dX10_odds_118 : decode cX10_odds 118 = .ok (.irem, 1) := by decide +kernel
theorem dX10_odds_119 : decode cX10_odds 119 = .ok (.ifCond .ne 15, 3) := by decide +kernel
theorem dX10_odds_122 : decode cX10_odds 122 = .ok (.iload 4, 2) := by decide +kernel
theorem dX10_odds_124 : decode cX10_odds 124 = .ok (.iload 5, 2) := by decide +kernel
theorem dX10_odds_126 : decode cX10_odds 126 = .ok (.idiv, 1) := by decide +kernel
theorem dX10_odds_127 : decode cX10_odds 127 = .ok (.istore 4, 2) := by decide +kernel
theorem dX10_odds_129 : decode cX10_odds 129 = .ok (.iload_n 3, 1) := by decide +kernel
theorem dX10_odds_130 : decode cX10_odds 130 = .ok (.iload 5, 2) := by decide +kernel
theorem dX10_odds_132 : decode cX10_odds 132 = .ok (.idiv, 1) := by decide +kernel
theorem dX10_odds_133 : decode cX10_odds 133 = .ok (.istore_n 3, 1) := by decide +kernel
theorem dX10_odds_134 : decode cX10_odds 134 = .ok (.iinc 5 (-1), 3) := by decide +kernel
theorem dX10_odds_137 : decode cX10_odds 137 = .ok (.goto (-36), 3) := by decide +kernel
theorem dX10_odds_140 : decode cX10_odds 140 = .ok (.iload_n 2, 1) := by decide +kernel
theorem dX10_odds_141 : decode cX10_odds 141 = .ok (.ifCond .ne 8, 3) := by decide +kernel
theorem dX10_odds_144 : decode cX10_odds 144 = .ok (.iload 4, 2) := by decide +kernel
theorem dX10_odds_146 : decode cX10_odds 146 = .ok (.goto 4, 3) := by decide +kernel
theorem dX10_odds_149 : decode cX10_odds 149 = .ok (.iload_n 3, 1) := by decide +kernel
theorem dX10_odds_150 : decode cX10_odds 150 = .ok (.ireturn, 1) := by decide +kernel
theorem dX10_isSo_0 : decode cX10_isSo 0 = .ok (.iconst 1, 1) := by decide +kernel
theorem dX10_isSo_1 : decode cX10_isSo 1 = .ok (.istore_n 3, 1) := by decide +kernel
theorem dX10_isSo_2 : decode cX10_isSo 2 = .ok (.iconst 0, 1) := by decide +kernel
theorem dX10_isSo_3 : decode cX10_isSo 3 = .ok (.istore 4, 2) := by decide +kernel
theorem dX10_isSo_5 : decode cX10_isSo 5 = .ok (.iload 4, 2) := by decide +kernel
theorem dX10_isSo_7 : decode cX10_isSo 7 = .ok (.aload_n 0, 1) := by decide +kernel
theorem dX10_isSo_8 : decode cX10_isSo 8 = .ok (.getfield 25, 3) := by decide +kernel
theorem dX10_isSo_11 : decode cX10_isSo 11 = .ok (.iload_n 1, 1) := by decide +kernel
theorem dX10_isSo_12 : decode cX10_isSo 12 = .ok (.iaload, 1) := by decide +kernel
theorem dX10_isSo_13 : decode cX10_isSo 13 = .ok (.if_icmp .ge 50, 3) := by decide +kernel
theorem dX10_isSo_16 : decode cX10_isSo 16 = .ok (.iload_n 3, 1) := by decide +kernel
theorem dX10_isSo_17 : decode cX10_isSo 17 = .ok (.ifCond .eq 46, 3) := by decide +kernel
theorem dX10_isSo_20 : decode cX10_isSo 20 = .ok (.aload_n 0, 1) := by decide +kernel
theorem dX10_isSo_21 : decode cX10_isSo 21 = .ok (.iload 4, 2) := by decide +kernel
theorem dX10_isSo_23 : decode cX10_isSo 23 = .ok (.invokevirtual 99, 3) := by decide +kernel
theorem dX10_isSo_26 : decode cX10_isSo 26 = .ok (.ifCond .eq 29, 3) := by decide +kernel
theorem dX10_isSo_29 : decode cX10_isSo 29 = .ok (.aload_n 0, 1) := by decide +kernel
theorem dX10_isSo_30 : decode cX10_isSo 30 = .ok (.getfield 28, 3) := by decide +kernel
theorem dX10_isSo_33 : decode cX10_isSo 33 = .ok (.bipush 24, 2) := by decide +kernel
theorem dX10_isSo_35 : decode cX10_isSo 35 = .ok (.iload_n 1, 1) := by decide +kernel
theorem dX10_isSo_36 : decode cX10_isSo 36 = .ok (.imul, 1) := by decide +kernel
theorem dX10_isSo_37 : decode cX10_isSo 37 = .ok (.iload 4, 2) := by decide +kernel
theorem dX10_isSo_39 : decode cX10_isSo 39 = .ok (.iadd, 1) := by decide +kernel
theorem dX10_isSo_40 : decode cX10_isSo 40 = .ok (.iaload, 1) := by decide +kernel
theorem dX10_isSo_41 : decode cX10_isSo 41 = .ok (.aload_n 0, 1) := by decide +kernel
theorem dX10_isSo_42 : decode cX10_isSo 42 = .ok (.iload_n 2, 1) := by decide +kernel
theorem dX10_isSo_43 : decode cX10_isSo 43 = .ok (.iload 4, 2) := by decide +kernel
theorem dX10_isSo_45 : decode cX10_isSo 45 = .ok (.invokevirtual 115, 3) := by decide +kernel
theorem dX10_isSo_48 : decode cX10_isSo 48 = .ok (.if_icmp .ne 7, 3) := by decide +kernel
theorem dX10_isSo_51 : decode cX10_isSo 51 = .ok (.iconst 1, 1) := by decide +kernel
theorem dX10_isSo_52 : decode cX10_isSo 52 = .ok (.goto 4, 3) := by decide +kernel
theorem dX10_isSo_55 : decode cX10_isSo 55 = .ok (.iconst 0, 1) := by decide +kernel
theorem dX10_isSo_56 : decode cX10_isSo 56 = .ok (.istore_n 3, 1) := by decide +kernel
theorem dX10_isSo_57 : decode cX10_isSo 57 = .ok (.iinc 4 1, 3) := by decide +kernel
theorem dX10_isSo_60 : decode cX10_isSo 60 = .ok (.goto (-55), 3) := by decide +kernel
theorem dX10_isSo_63 : decode cX10_isSo 63 = .ok (.iload_n 3, 1) := by decide +kernel
theorem dX10_isSo_64 : decode cX10_isSo 64 = .ok (.ireturn, 1) := by decide +kernel
theorem dX10_fits_0 : decode cX10_fits 0 = .ok (.iload_n 1, 1) := by decide +kernel
theorem dX10_fits_1 : decode cX10_fits 1 = .ok (.invokestatic 213, 3) := by decide +kernel
theorem dX10_fits_4 : decode cX10_fits 4 = .ok (.ifCond .eq 20, 3) := by decide +kernel
theorem dX10_fits_7 : decode cX10_fits 7 = .ok (.aload_n 0, 1) := by decide +kernel
theorem dX10_fits_8 : decode cX10_fits 8 = .ok (.iload_n 2, 1) := by decide +kernel
theorem dX10_fits_9 : decode cX10_fits 9 = .ok (.invokevirtual 99, 3) := by decide +kernel
theorem dX10_fits_12 : decode cX10_fits 12 = .ok (.ifCond .eq 12, 3) := by decide +kernel
theorem dX10_fits_15 : decode cX10_fits 15 = .ok (.iload_n 3, 1) := by decide +kernel
theorem dX10_fits_16 : decode cX10_fits 16 = .ok (.iconst 0, 1) := by decide +kernel
theorem dX10_fits_17 : decode cX10_fits 17 = .ok (.iconst 1, 1) := by decide +kernel
theorem dX10_fits_18 : decode cX10_fits 18 = .ok (.invokestatic 51, 3) := by decide +kernel
theorem dX10_fits_21 : decode cX10_fits 21 = .ok (.ifCond .ne 10, 3) := by decide +kernel
theorem dX10_fits_24 : decode cX10_fits 24 = .ok (.aload_n 0, 1) := by decide +kernel
theorem dX10_fits_25 : decode cX10_fits 25 = .ok (.ldc 90, 2) := by decide +kernel
theorem dX10_fits_27 : decode cX10_fits 27 = .ok (.invokevirtual 91, 3) := by decide +kernel
theorem dX10_fits_30 : decode cX10_fits 30 = .ok (.ireturn, 1) := by decide +kernel
theorem dX10_fits_31 : decode cX10_fits 31 = .ok (.aload_n 0, 1) := by decide +kernel
theorem dX10_fits_32 : decode cX10_fits 32 = .ok (.getfield 22, 3) := by decide +kernel
theorem dX10_fits_35 : decode cX10_fits 35 = .ok (.iload_n 1, 1) := by decide +kernel
theorem dX10_fits_36 : decode cX10_fits 36 = .ok (.iaload, 1) := by decide +kernel
theorem dX10_fits_37 : decode cX10_fits 37 = .ok (.ifCond .ne 10, 3) := by decide +kernel
theorem dX10_fits_40 : decode cX10_fits 40 = .ok (.aload_n 0, 1) := by decide +kernel
theorem dX10_fits_41 : decode cX10_fits 41 = .ok (.ldc 114, 2) := by decide +kernel
theorem dX10_fits_43 : decode cX10_fits 43 = .ok (.invokevirtual 91, 3) := by decide +kernel
theorem dX10_fits_46 : decode cX10_fits 46 = .ok (.ireturn, 1) := by decide +kernel
theorem dX10_fits_47 : decode cX10_fits 47 = .ok (.aload_n 0, 1) := by decide +kernel
theorem dX10_fits_48 : decode cX10_fits 48 = .ok (.invokevirtual 198, 3) := by decide +kernel
theorem dX10_fits_51 : decode cX10_fits 51 = .ok (.iconst 0, 1) := by decide +kernel
theorem dX10_fits_52 : decode cX10_fits 52 = .ok (.istore 4, 2) := by decide +kernel
theorem dX10_fits_54 : decode cX10_fits 54 = .ok (.iconst 0, 1) := by decide +kernel
theorem dX10_fits_55 : decode cX10_fits 55 = .ok (.istore 5, 2) := by decide +kernel
theorem dX10_fits_57 : decode cX10_fits 57 = .ok (.iload 5, 2) := by decide +kernel
theorem dX10_fits_59 : decode cX10_fits 59 = .ok (.iload_n 2, 1) := by decide +kernel
theorem dX10_fits_60 : decode cX10_fits 60 = .ok (.if_icmp .ge 39, 3) := by decide +kernel
theorem dX10_fits_63 : decode cX10_fits 63 = .ok (.aload_n 0, 1) := by decide +kernel
theorem dX10_fits_64 : decode cX10_fits 64 = .ok (.iload_n 2, 1) := by decide +kernel
theorem dX10_fits_65 : decode cX10_fits 65 = .ok (.iconst 2, 1) := by decide +kernel
theorem dX10_fits_66 : decode cX10_fits 66 = .ok (.iload 5, 2) := by decide +kernel
theorem dX10_fits_68 : decode cX10_fits 68 = .ok (.invokevirtual 95, 3) := by decide +kernel
theorem dX10_fits_71 : decode cX10_fits 71 = .ok (.iload 4, 2) := by decide +kernel
theorem dX10_fits_73 : decode cX10_fits 73 = .ok (.aload_n 0, 1) := by decide +kernel
theorem dX10_fits_74 : decode cX10_fits 74 = .ok (.iload_n 1, 1) := by decide +kernel
theorem dX10_fits_75 : decode cX10_fits 75 = .ok (.iload_n 2, 1) := by decide +kernel
theorem dX10_fits_76 : decode cX10_fits 76 = .ok (.invokevirtual 216, 3) := by decide +kernel
theorem dX10_fits_79 : decode cX10_fits 79 = .ok (.ifCond .eq 10, 3) := by decide +kernel
theorem dX10_fits_82 : decode cX10_fits 82 = .ok (.iconst 1, 1) := by decide +kernel
theorem dX10_fits_83 : decode cX10_fits 83 = .ok (.iload 5, 2) := by decide +kernel
theorem dX10_fits_85 : decode cX10_fits 85 = .ok (.ishl, 1) := by decide +kernel
theorem dX10_fits_86 : decode cX10_fits 86 = .ok (.goto 4, 3) := by decide +kernel
theorem dX10_fits_89 : decode cX10_fits 89 = .ok (.iconst 0, 1) := by decide +kernel
theorem dX10_fits_90 : decode cX10_fits 90 = .ok (.ior, 1) := by decide +kernel
theorem dX10_fits_91 : decode cX10_fits 91 = .ok (.istore 4, 2) := by decide +kernel
theorem dX10_fits_93 : decode cX10_fits 93 = .ok (.iinc 5 1, 3) := by decide +kernel
theorem dX10_fits_96 : decode cX10_fits 96 = .ok (.goto (-39), 3) := by decide +kernel
theorem dX10_fits_99 : decode cX10_fits 99 = .ok (.aload_n 0, 1) := by decide +kernel
theorem dX10_fits_100 : decode cX10_fits 100 = .ok (.invokevirtual 201, 3) := by decide +kernel
theorem dX10_fits_103 : decode cX10_fits 103 = .ok (.iload_n 3, 1) := by decide +kernel
theorem dX10_fits_104 : decode cX10_fits 104 = .ok (.ifCond .ne 8, 3) := by decide +kernel
theorem dX10_fits_107 : decode cX10_fits 107 = .ok (.iload 4, 2) := by decide +kernel
theorem dX10_fits_109 : decode cX10_fits 109 = .ok (.goto 8, 3) := by decide +kernel
theorem dX10_fits_112 : decode cX10_fits 112 = .ok (.iload 4, 2) := by decide +kernel
theorem dX10_fits_114 : decode cX10_fits 114 = .ok (.invokestatic 67, 3) := by decide +kernel
theorem dX10_fits_117 : decode cX10_fits 117 = .ok (.ireturn, 1) := by decide +kernel
theorem dX10_begins_0 : decode cX10_begins 0 = .ok (.aload_n 0, 1) := by decide +kernel
theorem dX10_begins_1 : decode cX10_begins 1 = .ok (.getfield 219, 3) := by decide +kernel
theorem dX10_begins_4 : decode cX10_begins 4 = .ok (.bipush 30, 2) := by decide +kernel
theorem dX10_begins_6 : decode cX10_begins 6 = .ok (.if_icmp .ge 23, 3) := by decide +kernel
theorem dX10_begins_9 : decode cX10_begins 9 = .ok (.aload_n 0, 1) := by decide +kernel
theorem dX10_begins_10 : decode cX10_begins 10 = .ok (.getfield 43, 3) := by decide +kernel
theorem dX10_begins_13 : decode cX10_begins 13 = .ok (.aload_n 0, 1) := by decide +kernel
theorem dX10_begins_14 : decode cX10_begins 14 = .ok (.getfield 219, 3) := by decide +kernel
theorem dX10_begins_17 : decode cX10_begins 17 = .ok (.iload_n 1, 1) := by decide +kernel
theorem dX10_begins_18 : decode cX10_begins 18 = .ok (.iastore, 1) := by decide +kernel
theorem dX10_begins_19 : decode cX10_begins 19 = .ok (.aload_n 0, 1) := by decide +kernel
theorem dX10_begins_20 : decode cX10_begins 20 = .ok (.dup, 1) := by decide +kernel
theorem dX10_begins_21 : decode cX10_begins 21 = .ok (.getfield 219, 3) := by decide +kernel
theorem dX10_begins_24 : decode cX10_begins 24 = .ok (.iconst 1, 1) := by decide +kernel
theorem dX10_begins_25 : decode cX10_begins 25 = .ok (.iadd, 1) := by decide +kernel
theorem dX10_begins_26 : decode cX10_begins 26 = .ok (.putfield 219, 3) := by decide +kernel
theorem dX10_begins_29 : decode cX10_begins 29 = .ok (.return_, 1) := by decide +kernel
theorem dX10_plainLowers_0 : decode cX10_plainLowers 0 = .ok (.aload_n 0, 1) := by decide +kernel
theorem dX10_plainLowers_1 : decode cX10_plainLowers 1 = .ok (.bipush 10, 2) := by decide +kernel
theorem dX10_plainLowers_3 : decode cX10_plainLowers 3 = .ok (.invokevirtual 222, 3) := by decide +kernel
theorem dX10_plainLowers_6 : decode cX10_plainLowers 6 = .ok (.iload_n 2, 1) := by decide +kernel
theorem dX10_plainLowers_7 : decode cX10_plainLowers 7 = .ok (.iload_n 1, 1) := by decide +kernel
theorem dX10_plainLowers_8 : decode cX10_plainLowers 8 = .ok (.iadd, 1) := by decide +kernel
theorem dX10_plainLowers_9 : decode cX10_plainLowers 9 = .ok (.ireturn, 1) := by decide +kernel
theorem dX10_heiressLowers_0 : decode cX10_heiressLowers 0 = .ok (.aload_n 0, 1) := by decide +kernel
theorem dX10_heiressLowers_1 : decode cX10_heiressLowers 1 = .ok (.bipush 20, 2) := by decide +kernel
theorem dX10_heiressLowers_3 : decode cX10_heiressLowers 3 = .ok (.invokevirtual 222, 3) := by decide +kernel
theorem dX10_heiressLowers_6 : decode cX10_heiressLowers 6 = .ok (.aload_n 0, 1) := by decide +kernel
theorem dX10_heiressLowers_7 : decode cX10_heiressLowers 7 = .ok (.iload_n 1, 1) := by decide +kernel
theorem dX10_heiressLowers_8 : decode cX10_heiressLowers 8 = .ok (.iload_n 2, 1) := by decide +kernel
theorem dX10_heiressLowers_9 : decode cX10_heiressLowers 9 = .ok (.invokevirtual 225, 3) := by decide +kernel
theorem dX10_heiressLowers_12 : decode cX10_heiressLowers 12 = .ok (.iconst 4, 1) := by decide +kernel
theorem dX10_heiressLowers_13 : decode cX10_heiressLowers 13 = .ok (.isub, 1) := by decide +kernel
theorem dX10_heiressLowers_14 : decode cX10_heiressLowers 14 = .ok (.ireturn, 1) := by decide +kernel
theorem dX10_lowers_0 : decode cX10_lowers 0 = .ok (.aload_n 0, 1) := by decide +kernel
theorem dX10_lowers_1 : decode cX10_lowers 1 = .ok (.iload_n 1, 1) := by decide +kernel
theorem dX10_lowers_2 : decode cX10_lowers 2 = .ok (.iconst 0, 1) := by decide +kernel
theorem dX10_lowers_3 : decode cX10_lowers 3 = .ok (.invokevirtual 55, 3) := by decide +kernel
theorem dX10_lowers_6 : decode cX10_lowers 6 = .ok (.lookupswitch 65 #[(1, 34), (4, 41), (6, 56)], 34) := by decide +kernel
theorem dX10_lowers_40 : decode cX10_lowers 40 = .ok (.aload_n 0, 1) := by decide +kernel
theorem dX10_lowers_41 : decode cX10_lowers 41 = .ok (.iload_n 1, 1) := by decide +kernel
theorem dX10_lowers_42 : decode cX10_lowers 42 = .ok (.iload_n 2, 1) := by decide +kernel
theorem dX10_lowers_43 : decode cX10_lowers 43 = .ok (.invokevirtual 228, 3) := by decide +kernel
theorem dX10_lowers_46 : decode cX10_lowers 46 = .ok (.ireturn, 1) := by decide +kernel
theorem dX10_lowers_47 : decode cX10_lowers 47 = .ok (.aload_n 0, 1) := by decide +kernel
theorem dX10_lowers_48 : decode cX10_lowers 48 = .ok (.bipush 50, 2) := by decide +kernel
theorem dX10_lowers_50 : decode cX10_lowers 50 = .ok (.invokevirtual 222, 3) := by decide +kernel
theorem dX10_lowers_53 : decode cX10_lowers 53 = .ok (.aload_n 0, 1) := by decide +kernel
theorem dX10_lowers_54 : decode cX10_lowers 54 = .ok (.iload_n 1, 1) := by decide +kernel
theorem dX10_lowers_55 : decode cX10_lowers 55 = .ok (.iload_n 2, 1) := by decide +kernel
theorem dX10_lowers_56 : decode cX10_lowers 56 = .ok (.invokevirtual 228, 3) := by decide +kernel
theorem dX10_lowers_59 : decode cX10_lowers 59 = .ok (.iconst 3, 1) := by decide +kernel
theorem dX10_lowers_60 : decode cX10_lowers 60 = .ok (.imul, 1) := by decide +kernel
theorem dX10_lowers_61 : decode cX10_lowers 61 = .ok (.ireturn, 1) := by decide +kernel
theorem dX10_lowers_62 : decode cX10_lowers 62 = .ok (.aload_n 0, 1) := by decide +kernel
theorem dX10_lowers_63 : decode cX10_lowers 63 = .ok (.bipush 70, 2) := by decide +kernel
theorem dX10_lowers_65 : decode cX10_lowers 65 = .ok (.invokevirtual 222, 3) := by decide +kernel
theorem dX10_lowers_68 : decode cX10_lowers 68 = .ok (.bipush 9, 2) := by decide +kernel
theorem dX10_lowers_70 : decode cX10_lowers 70 = .ok (.ireturn, 1) := by decide +kernel
theorem dX10_lowers_71 : decode cX10_lowers 71 = .ok (.aload_n 0, 1) := by decide +kernel
theorem dX10_lowers_72 : decode cX10_lowers 72 = .ok (.iload_n 1, 1) := by decide +kernel
theorem dX10_lowers_73 : decode cX10_lowers 73 = .ok (.iload_n 2, 1) := by decide +kernel
theorem dX10_lowers_74 : decode cX10_lowers 74 = .ok (.invokevirtual 225, 3) := by decide +kernel
theorem dX10_lowers_77 : decode cX10_lowers 77 = .ok (.ireturn, 1) := by decide +kernel
theorem dX10_plainLifts_0 : decode cX10_plainLifts 0 = .ok (.aload_n 0, 1) := by decide +kernel
theorem dX10_plainLifts_1 : decode cX10_plainLifts 1 = .ok (.bipush 11, 2) := by decide +kernel
theorem dX10_plainLifts_3 : decode cX10_plainLifts 3 = .ok (.invokevirtual 222, 3) := by decide +kernel
theorem dX10_plainLifts_6 : decode cX10_plainLifts 6 = .ok (.aload_n 0, 1) := by decide +kernel
theorem dX10_plainLifts_7 : decode cX10_plainLifts 7 = .ok (.iload_n 1, 1) := by decide +kernel
theorem dX10_plainLifts_8 : decode cX10_plainLifts 8 = .ok (.iload_n 2, 1) := by decide +kernel
theorem dX10_plainLifts_9 : decode cX10_plainLifts 9 = .ok (.invokevirtual 231, 3) := by decide +kernel
theorem dX10_plainLifts_12 : decode cX10_plainLifts 12 = .ok (.iconst 2, 1) := by decide +kernel
theorem dX10_plainLifts_13 : decode cX10_plainLifts 13 = .ok (.imul, 1) := by decide +kernel
theorem dX10_plainLifts_14 : decode cX10_plainLifts 14 = .ok (.ireturn, 1) := by decide +kernel
theorem dX10_judgeLifts_0 : decode cX10_judgeLifts 0 = .ok (.aload_n 0, 1) := by decide +kernel
theorem dX10_judgeLifts_1 : decode cX10_judgeLifts 1 = .ok (.bipush 30, 2) := by decide +kernel
theorem dX10_judgeLifts_3 : decode cX10_judgeLifts 3 = .ok (.invokevirtual 222, 3) := by decide +kernel
theorem dX10_judgeLifts_6 : decode cX10_judgeLifts 6 = .ok (.aload_n 0, 1) := by decide +kernel
theorem dX10_judgeLifts_7 : decode cX10_judgeLifts 7 = .ok (.iload_n 1, 1) := by decide +kernel
theorem dX10_judgeLifts_8 : decode cX10_judgeLifts 8 = .ok (.iload_n 2, 1) := by decide +kernel
theorem dX10_judgeLifts_9 : decode cX10_judgeLifts 9 = .ok (.invokevirtual 234, 3) := by decide +kernel
theorem dX10_judgeLifts_12 : decode cX10_judgeLifts 12 = .ok (.ineg, 1) := by decide +kernel
theorem dX10_judgeLifts_13 : decode cX10_judgeLifts 13 = .ok (.ireturn, 1) := by decide +kernel
theorem dX10_lifts_0 : decode cX10_lifts 0 = .ok (.aload_n 0, 1) := by decide +kernel
theorem dX10_lifts_1 : decode cX10_lifts 1 = .ok (.iload_n 1, 1) := by decide +kernel
theorem dX10_lifts_2 : decode cX10_lifts 2 = .ok (.iconst 0, 1) := by decide +kernel
theorem dX10_lifts_3 : decode cX10_lifts 3 = .ok (.invokevirtual 55, 3) := by decide +kernel
theorem dX10_lifts_6 : decode cX10_lifts 6 = .ok (.tableswitch 76 2 6 #[34, 76, 76, 41, 56], 34) := by decide +kernel
theorem dX10_lifts_40 : decode cX10_lifts 40 = .ok (.aload_n 0, 1) := by decide +kernel
theorem dX10_lifts_41 : decode cX10_lifts 41 = .ok (.iload_n 1, 1) := by decide +kernel
theorem dX10_lifts_42 : decode cX10_lifts 42 = .ok (.iload_n 2, 1) := by decide +kernel
theorem dX10_lifts_43 : decode cX10_lifts 43 = .ok (.invokevirtual 237, 3) := by decide +kernel
theorem dX10_lifts_46 : decode cX10_lifts 46 = .ok (.ireturn, 1) := by decide +kernel
theorem dX10_lifts_47 : decode cX10_lifts 47 = .ok (.aload_n 0, 1) := by decide +kernel
theorem dX10_lifts_48 : decode cX10_lifts 48 = .ok (.bipush 60, 2) := by decide +kernel
theorem dX10_lifts_50 : decode cX10_lifts 50 = .ok (.invokevirtual 222, 3) := by decide +kernel
theorem dX10_lifts_53 : decode cX10_lifts 53 = .ok (.aload_n 0, 1) := by decide +kernel
theorem dX10_lifts_54 : decode cX10_lifts 54 = .ok (.iload_n 1, 1) := by decide +kernel
theorem dX10_lifts_55 : decode cX10_lifts 55 = .ok (.iload_n 2, 1) := by decide +kernel
theorem dX10_lifts_56 : decode cX10_lifts 56 = .ok (.iconst 1, 1) := by decide +kernel
theorem dX10_lifts_57 : decode cX10_lifts 57 = .ok (.iadd, 1) := by decide +kernel
theorem dX10_lifts_58 : decode cX10_lifts 58 = .ok (.invokevirtual 237, 3) := by decide +kernel
theorem dX10_lifts_61 : decode cX10_lifts 61 = .ok (.ireturn, 1) := by decide +kernel
theorem dX10_lifts_62 : decode cX10_lifts 62 = .ok (.aload_n 0, 1) := by decide +kernel
theorem dX10_lifts_63 : decode cX10_lifts 63 = .ok (.bipush 71, 2) := by decide +kernel
theorem dX10_lifts_65 : decode cX10_lifts 65 = .ok (.invokevirtual 222, 3) := by decide +kernel
theorem dX10_lifts_68 : decode cX10_lifts 68 = .ok (.aload_n 0, 1) := by decide +kernel
theorem dX10_lifts_69 : decode cX10_lifts 69 = .ok (.iload_n 1, 1) := by decide +kernel
theorem dX10_lifts_70 : decode cX10_lifts 70 = .ok (.iload_n 2, 1) := by decide +kernel
theorem dX10_lifts_71 : decode cX10_lifts 71 = .ok (.invokevirtual 234, 3) := by decide +kernel
theorem dX10_lifts_74 : decode cX10_lifts 74 = .ok (.aload_n 0, 1) := by decide +kernel
theorem dX10_lifts_75 : decode cX10_lifts 75 = .ok (.iload_n 1, 1) := by decide +kernel
theorem dX10_lifts_76 : decode cX10_lifts 76 = .ok (.iconst 1, 1) := by decide +kernel
theorem dX10_lifts_77 : decode cX10_lifts 77 = .ok (.invokevirtual 55, 3) := by decide +kernel
theorem dX10_lifts_80 : decode cX10_lifts 80 = .ok (.iadd, 1) := by decide +kernel
theorem dX10_lifts_81 : decode cX10_lifts 81 = .ok (.ireturn, 1) := by decide +kernel
theorem dX10_lifts_82 : decode cX10_lifts 82 = .ok (.aload_n 0, 1) := by decide +kernel
theorem dX10_lifts_83 : decode cX10_lifts 83 = .ok (.iload_n 1, 1) := by decide +kernel
theorem dX10_lifts_84 : decode cX10_lifts 84 = .ok (.iload_n 2, 1) := by decide +kernel
theorem dX10_lifts_85 : decode cX10_lifts 85 = .ok (.invokevirtual 234, 3) := by decide +kernel
theorem dX10_lifts_88 : decode cX10_lifts 88 = .ok (.ireturn, 1) := by decide +kernel
theorem dX10_plainLooks_0 : decode cX10_plainLooks 0 = .ok (.aload_n 0, 1) := by decide +kernel
theorem dX10_plainLooks_1 : decode cX10_plainLooks 1 = .ok (.bipush 12, 2) := by decide +kernel
theorem dX10_plainLooks_3 : decode cX10_plainLooks 3 = .ok (.invokevirtual 222, 3) := by decide +kernel
theorem dX10_plainLooks_6 : decode cX10_plainLooks 6 = .ok (.aload_n 0, 1) := by decide +kernel
theorem dX10_plainLooks_7 : decode cX10_plainLooks 7 = .ok (.iload_n 1, 1) := by decide +kernel
theorem dX10_plainLooks_8 : decode cX10_plainLooks 8 = .ok (.iload_n 2, 1) := by decide +kernel
theorem dX10_plainLooks_9 : decode cX10_plainLooks 9 = .ok (.invokevirtual 240, 3) := by decide +kernel
theorem dX10_plainLooks_12 : decode cX10_plainLooks 12 = .ok (.aload_n 0, 1) := by decide +kernel
theorem dX10_plainLooks_13 : decode cX10_plainLooks 13 = .ok (.iload_n 1, 1) := by decide +kernel
theorem dX10_plainLooks_14 : decode cX10_plainLooks 14 = .ok (.iconst 1, 1) := by decide +kernel
theorem dX10_plainLooks_15 : decode cX10_plainLooks 15 = .ok (.invokevirtual 55, 3) := by decide +kernel
theorem dX10_plainLooks_18 : decode cX10_plainLooks 18 = .ok (.isub, 1) := by decide +kernel
theorem dX10_plainLooks_19 : decode cX10_plainLooks 19 = .ok (.ireturn, 1) := by decide +kernel
theorem dX10_looksBy_0 : decode cX10_looksBy 0 = .ok (.aload_n 0, 1) := by decide +kernel
theorem dX10_looksBy_1 : decode cX10_looksBy 1 = .ok (.iload_n 1, 1) := by decide +kernel
theorem dX10_looksBy_2 : decode cX10_looksBy 2 = .ok (.iconst 0, 1) := by decide +kernel
theorem dX10_looksBy_3 : decode cX10_looksBy 3 = .ok (.invokevirtual 55, 3) := by decide +kernel
theorem dX10_looksBy_6 : decode cX10_looksBy 6 = .ok (.lookupswitch 56 #[(3, 26), (4, 41)], 26) := by decide +kernel
theorem dX10_looksBy_32 : decode cX10_looksBy 32 = .ok (.aload_n 0, 1) := by decide +kernel
theorem dX10_looksBy_33 : decode cX10_looksBy 33 = .ok (.bipush 40, 2) := by decide +kernel
theorem dX10_looksBy_35 : decode cX10_looksBy 35 = .ok (.invokevirtual 222, 3) := by decide +kernel
theorem dX10_looksBy_38 : decode cX10_looksBy 38 = .ok (.aload_n 0, 1) := by decide +kernel
theorem dX10_looksBy_39 : decode cX10_looksBy 39 = .ok (.iload_n 1, 1) := by decide +kernel
theorem dX10_looksBy_40 : decode cX10_looksBy 40 = .ok (.iload_n 2, 1) := by decide +kernel
theorem dX10_looksBy_41 : decode cX10_looksBy 41 = .ok (.iconst 2, 1) := by decide +kernel
theorem dX10_looksBy_42 : decode cX10_looksBy 42 = .ok (.idiv, 1) := by decide +kernel
theorem dX10_looksBy_43 : decode cX10_looksBy 43 = .ok (.invokevirtual 243, 3) := by decide +kernel
theorem dX10_looksBy_46 : decode cX10_looksBy 46 = .ok (.ireturn, 1) := by decide +kernel
theorem dX10_looksBy_47 : decode cX10_looksBy 47 = .ok (.aload_n 0, 1) := by decide +kernel
theorem dX10_looksBy_48 : decode cX10_looksBy 48 = .ok (.bipush 51, 2) := by decide +kernel
theorem dX10_looksBy_50 : decode cX10_looksBy 50 = .ok (.invokevirtual 222, 3) := by decide +kernel
theorem dX10_looksBy_53 : decode cX10_looksBy 53 = .ok (.aload_n 0, 1) := by decide +kernel
theorem dX10_looksBy_54 : decode cX10_looksBy 54 = .ok (.iload_n 1, 1) := by decide +kernel
theorem dX10_looksBy_55 : decode cX10_looksBy 55 = .ok (.iload_n 2, 1) := by decide +kernel
theorem dX10_looksBy_56 : decode cX10_looksBy 56 = .ok (.invokevirtual 243, 3) := by decide +kernel
theorem dX10_looksBy_59 : decode cX10_looksBy 59 = .ok (.iload_n 1, 1) := by decide +kernel
theorem dX10_looksBy_60 : decode cX10_looksBy 60 = .ok (.ixor, 1) := by decide +kernel
theorem dX10_looksBy_61 : decode cX10_looksBy 61 = .ok (.ireturn, 1) := by decide +kernel
theorem dX10_looksBy_62 : decode cX10_looksBy 62 = .ok (.aload_n 0, 1) := by decide +kernel
theorem dX10_looksBy_63 : decode cX10_looksBy 63 = .ok (.iload_n 1, 1) := by decide +kernel
theorem dX10_looksBy_64 : decode cX10_looksBy 64 = .ok (.iload_n 2, 1) := by decide +kernel
theorem dX10_looksBy_65 : decode cX10_looksBy 65 = .ok (.invokevirtual 243, 3) := by decide +kernel
theorem dX10_looksBy_68 : decode cX10_looksBy 68 = .ok (.ireturn, 1) := by decide +kernel
theorem dX10_plainParts_0 : decode cX10_plainParts 0 = .ok (.aload_n 0, 1) := by decide +kernel
theorem dX10_plainParts_1 : decode cX10_plainParts 1 = .ok (.bipush 13, 2) := by decide +kernel
theorem dX10_plainParts_3 : decode cX10_plainParts 3 = .ok (.invokevirtual 222, 3) := by decide +kernel
theorem dX10_plainParts_6 : decode cX10_plainParts 6 = .ok (.aload_n 0, 1) := by decide +kernel
theorem dX10_plainParts_7 : decode cX10_plainParts 7 = .ok (.iload_n 1, 1) := by decide +kernel
theorem dX10_plainParts_8 : decode cX10_plainParts 8 = .ok (.iconst 1, 1) := by decide +kernel
theorem dX10_plainParts_9 : decode cX10_plainParts 9 = .ok (.invokevirtual 55, 3) := by decide +kernel
theorem dX10_plainParts_12 : decode cX10_plainParts 12 = .ok (.iload_n 1, 1) := by decide +kernel
theorem dX10_plainParts_13 : decode cX10_plainParts 13 = .ok (.isub, 1) := by decide +kernel
theorem dX10_plainParts_14 : decode cX10_plainParts 14 = .ok (.istore_n 3, 1) := by decide +kernel
theorem dX10_plainParts_15 : decode cX10_plainParts 15 = .ok (.aload_n 0, 1) := by decide +kernel
theorem dX10_plainParts_16 : decode cX10_plainParts 16 = .ok (.iload_n 3, 1) := by decide +kernel
theorem dX10_plainParts_17 : decode cX10_plainParts 17 = .ok (.ifCond .ne 7, 3) := by decide +kernel
theorem dX10_plainParts_20 : decode cX10_plainParts 20 = .ok (.iconst 1, 1) := by decide +kernel
theorem dX10_plainParts_21 : decode cX10_plainParts 21 = .ok (.goto 4, 3) := by decide +kernel
theorem dX10_plainParts_24 : decode cX10_plainParts 24 = .ok (.iconst 0, 1) := by decide +kernel
theorem dX10_plainParts_25 : decode cX10_plainParts 25 = .ok (.putfield 246, 3) := by decide +kernel
theorem dX10_plainParts_28 : decode cX10_plainParts 28 = .ok (.aload_n 0, 1) := by decide +kernel
theorem dX10_plainParts_29 : decode cX10_plainParts 29 = .ok (.getfield 246, 3) := by decide +kernel
theorem dX10_plainParts_32 : decode cX10_plainParts 32 = .ok (.ifCond .eq 7, 3) := by decide +kernel
theorem dX10_plainParts_35 : decode cX10_plainParts 35 = .ok (.iconst 0, 1) := by decide +kernel
theorem dX10_plainParts_36 : decode cX10_plainParts 36 = .ok (.goto 6, 3) := by decide +kernel
theorem dX10_plainParts_39 : decode cX10_plainParts 39 = .ok (.iload_n 2, 1) := by decide +kernel
theorem dX10_plainParts_40 : decode cX10_plainParts 40 = .ok (.iload_n 3, 1) := by decide +kernel
theorem dX10_plainParts_41 : decode cX10_plainParts 41 = .ok (.idiv, 1) := by decide +kernel
theorem dX10_plainParts_42 : decode cX10_plainParts 42 = .ok (.ireturn, 1) := by decide +kernel
theorem dX10_partsBy_0 : decode cX10_partsBy 0 = .ok (.aload_n 0, 1) := by decide +kernel
theorem dX10_partsBy_1 : decode cX10_partsBy 1 = .ok (.iload_n 1, 1) := by decide +kernel
theorem dX10_partsBy_2 : decode cX10_partsBy 2 = .ok (.iconst 0, 1) := by decide +kernel
theorem dX10_partsBy_3 : decode cX10_partsBy 3 = .ok (.invokevirtual 55, 3) := by decide +kernel
theorem dX10_partsBy_6 : decode cX10_partsBy 6 = .ok (.iconst 1, 1) := by decide +kernel
theorem dX10_partsBy_7 : decode cX10_partsBy 7 = .ok (.if_icmp .eq 13, 3) := by decide +kernel
theorem dX10_partsBy_10 : decode cX10_partsBy 10 = .ok (.aload_n 0, 1) := by decide +kernel
theorem dX10_partsBy_11 : decode cX10_partsBy 11 = .ok (.iload_n 1, 1) := by decide +kernel
theorem dX10_partsBy_12 : decode cX10_partsBy 12 = .ok (.iconst 0, 1) := by decide +kernel
theorem dX10_partsBy_13 : decode cX10_partsBy 13 = .ok (.invokevirtual 55, 3) := by decide +kernel
theorem dX10_partsBy_16 : decode cX10_partsBy 16 = .ok (.iconst 4, 1) := by decide +kernel
theorem dX10_partsBy_17 : decode cX10_partsBy 17 = .ok (.if_icmp .ne 36, 3) := by decide +kernel
theorem dX10_partsBy_20 : decode cX10_partsBy 20 = .ok (.aload_n 0, 1) := by decide +kernel
theorem dX10_partsBy_21 : decode cX10_partsBy 21 = .ok (.bipush 21, 2) := by decide +kernel
theorem dX10_partsBy_23 : decode cX10_partsBy 23 = .ok (.invokevirtual 222, 3) := by decide +kernel
theorem dX10_partsBy_26 : decode cX10_partsBy 26 = .ok (.aload_n 0, 1) := by decide +kernel
theorem dX10_partsBy_27 : decode cX10_partsBy 27 = .ok (.iload_n 1, 1) := by decide +kernel
theorem dX10_partsBy_28 : decode cX10_partsBy 28 = .ok (.iload_n 2, 1) := by decide +kernel
theorem dX10_partsBy_29 : decode cX10_partsBy 29 = .ok (.invokevirtual 249, 3) := by decide +kernel
theorem dX10_partsBy_32 : decode cX10_partsBy 32 = .ok (.istore_n 3, 1) := by decide +kernel
theorem dX10_partsBy_33 : decode cX10_partsBy 33 = .ok (.aload_n 0, 1) := by decide +kernel
theorem dX10_partsBy_34 : decode cX10_partsBy 34 = .ok (.getfield 246, 3) := by decide +kernel
theorem dX10_partsBy_37 : decode cX10_partsBy 37 = .ok (.ifCond .eq 7, 3) := by decide +kernel
theorem dX10_partsBy_40 : decode cX10_partsBy 40 = .ok (.iconst 0, 1) := by decide +kernel
theorem dX10_partsBy_41 : decode cX10_partsBy 41 = .ok (.goto 11, 3) := by decide +kernel
theorem dX10_partsBy_44 : decode cX10_partsBy 44 = .ok (.iload_n 3, 1) := by decide +kernel
theorem dX10_partsBy_45 : decode cX10_partsBy 45 = .ok (.aload_n 0, 1) := by decide +kernel
theorem dX10_partsBy_46 : decode cX10_partsBy 46 = .ok (.iload_n 1, 1) := by decide +kernel
theorem dX10_partsBy_47 : decode cX10_partsBy 47 = .ok (.iconst 1, 1) := by decide +kernel
theorem dX10_partsBy_48 : decode cX10_partsBy 48 = .ok (.invokevirtual 240, 3) := by decide +kernel
theorem dX10_partsBy_51 : decode cX10_partsBy 51 = .ok (.iadd, 1) := by decide +kernel
theorem dX10_partsBy_52 : decode cX10_partsBy 52 = .ok (.ireturn, 1) := by decide +kernel
theorem dX10_partsBy_53 : decode cX10_partsBy 53 = .ok (.aload_n 0, 1) := by decide +kernel
theorem dX10_partsBy_54 : decode cX10_partsBy 54 = .ok (.iload_n 1, 1) := by decide +kernel
theorem dX10_partsBy_55 : decode cX10_partsBy 55 = .ok (.iload_n 2, 1) := by decide +kernel
theorem dX10_partsBy_56 : decode cX10_partsBy 56 = .ok (.invokevirtual 249, 3) := by decide +kernel
theorem dX10_partsBy_59 : decode cX10_partsBy 59 = .ok (.ireturn, 1) := by decide +kernel
theorem dX10_voice_0 : decode cX10_voice 0 = .ok (.aload_n 0, 1) := by decide +kernel
theorem dX10_voice_1 : decode cX10_voice 1 = .ok (.iload_n 1, 1) := by decide +kernel
theorem dX10_voice_2 : decode cX10_voice 2 = .ok (.invokevirtual 99, 3) := by decide +kernel
theorem dX10_voice_5 : decode cX10_voice 5 = .ok (.ifCond .eq 12, 3) := by decide +kernel
theorem dX10_voice_8 : decode cX10_voice 8 = .ok (.iload_n 2, 1) := by decide +kernel
theorem dX10_voice_9 : decode cX10_voice 9 = .ok (.iconst 0, 1) := by decide +kernel
theorem dX10_voice_10 : decode cX10_voice 10 = .ok (.iconst 3, 1) := by decide +kernel
theorem dX10_voice_11 : decode cX10_voice 11 = .ok (.invokestatic 51, 3) := by decide +kernel
theorem dX10_voice_14 : decode cX10_voice 14 = .ok (.ifCond .ne 10, 3) := by decide +kernel
theorem dX10_voice_17 : decode cX10_voice 17 = .ok (.aload_n 0, 1) := by decide +kernel
theorem dX10_voice_18 : decode cX10_voice 18 = .ok (.ldc 90, 2) := by decide +kernel
theorem dX10_voice_20 : decode cX10_voice 20 = .ok (.invokevirtual 91, 3) := by decide +kernel
theorem dX10_voice_23 : decode cX10_voice 23 = .ok (.ireturn, 1) := by decide +kernel
theorem dX10_voice_24 : decode cX10_voice 24 = .ok (.aload_n 0, 1) := by decide +kernel
theorem dX10_voice_25 : decode cX10_voice 25 = .ok (.iconst 0, 1) := by decide +kernel
theorem dX10_voice_26 : decode cX10_voice 26 = .ok (.putfield 219, 3) := by decide +kernel
theorem dX10_voice_29 : decode cX10_voice 29 = .ok (.aload_n 0, 1) := by decide +kernel
theorem dX10_voice_30 : decode cX10_voice 30 = .ok (.iconst 0, 1) := by decide +kernel
theorem dX10_voice_31 : decode cX10_voice 31 = .ok (.putfield 246, 3) := by decide +kernel
theorem dX10_voice_34 : decode cX10_voice 34 = .ok (.iload_n 2, 1) := by decide +kernel
theorem dX10_voice_35 : decode cX10_voice 35 = .ok (.ifCond .ne 12, 3) := by decide +kernel
theorem dX10_voice_38 : decode cX10_voice 38 = .ok (.aload_n 0, 1) := by decide +kernel
theorem dX10_voice_39 : decode cX10_voice 39 = .ok (.iload_n 1, 1) := by decide +kernel
theorem dX10_voice_40 : decode cX10_voice 40 = .ok (.iload_n 3, 1) := by decide +kernel
theorem dX10_voice_41 : decode cX10_voice 41 = .ok (.invokevirtual 231, 3) := by decide +kernel
theorem dX10_voice_44 : decode cX10_voice 44 = .ok (.goto 37, 3) := by decide +kernel
theorem dX10_voice_47 : decode cX10_voice 47 = .ok (.iload_n 2, 1) := by decide +kernel
theorem dX10_voice_48 : decode cX10_voice 48 = .ok (.iconst 1, 1) := by decide +kernel
theorem dX10_voice_49 : decode cX10_voice 49 = .ok (.if_icmp .ne 12, 3) := by decide +kernel
theorem dX10_voice_52 : decode cX10_voice 52 = .ok (.aload_n 0, 1) := by decide +kernel
theorem dX10_voice_53 : decode cX10_voice 53 = .ok (.iload_n 1, 1) := by decide +kernel
theorem dX10_voice_54 : decode cX10_voice 54 = .ok (.iload_n 3, 1) := by decide +kernel
theorem dX10_voice_55 : decode cX10_voice 55 = .ok (.invokevirtual 240, 3) := by decide +kernel
theorem dX10_voice_58 : decode cX10_voice 58 = .ok (.goto 23, 3) := by decide +kernel
theorem dX10_voice_61 : decode cX10_voice 61 = .ok (.iload_n 2, 1) := by decide +kernel
theorem dX10_voice_62 : decode cX10_voice 62 = .ok (.iconst 2, 1) := by decide +kernel
theorem dX10_voice_63 : decode cX10_voice 63 = .ok (.if_icmp .ne 12, 3) := by decide +kernel
theorem dX10_voice_66 : decode cX10_voice 66 = .ok (.aload_n 0, 1) := by decide +kernel
theorem dX10_voice_67 : decode cX10_voice 67 = .ok (.iload_n 1, 1) := by decide +kernel
theorem dX10_voice_68 : decode cX10_voice 68 = .ok (.iload_n 3, 1) := by decide +kernel
theorem dX10_voice_69 : decode cX10_voice 69 = .ok (.invokevirtual 252, 3) := by decide +kernel
theorem dX10_voice_72 : decode cX10_voice 72 = .ok (.goto 9, 3) := by decide +kernel
theorem dX10_voice_75 : decode cX10_voice 75 = .ok (.aload_n 0, 1) := by decide +kernel
theorem dX10_voice_76 : decode cX10_voice 76 = .ok (.iload_n 1, 1) := by decide +kernel
theorem dX10_voice_77 : decode cX10_voice 77 = .ok (.iload_n 3, 1) := by decide +kernel
theorem dX10_voice_78 : decode cX10_voice 78 = .ok (.invokevirtual 255, 3) := by decide +kernel
theorem dX10_voice_81 : decode cX10_voice 81 = .ok (.istore 4, 2) := by decide +kernel
theorem dX10_voice_83 : decode cX10_voice 83 = .ok (.aload_n 0, 1) := by decide +kernel
theorem dX10_voice_84 : decode cX10_voice 84 = .ok (.getfield 246, 3) := by decide +kernel
theorem dX10_voice_87 : decode cX10_voice 87 = .ok (.ifCond .eq 13, 3) := by decide +kernel
theorem dX10_voice_90 : decode cX10_voice 90 = .ok (.aload_n 0, 1) := by decide +kernel
theorem dX10_voice_91 : decode cX10_voice 91 = .ok (.ldc_w 258, 3) := by decide +kernel
theorem dX10_voice_94 : decode cX10_voice 94 = .ok (.invokevirtual 91, 3) := by decide +kernel
theorem dX10_voice_97 : decode cX10_voice 97 = .ok (.goto 5, 3) := by decide +kernel
theorem dX10_voice_100 : decode cX10_voice 100 = .ok (.iload 4, 2) := by decide +kernel
theorem dX10_voice_102 : decode cX10_voice 102 = .ok (.ireturn, 1) := by decide +kernel
theorem dX10_body_0 : decode cX10_body 0 = .ok (.iload_n 1, 1) := by decide +kernel
theorem dX10_body_1 : decode cX10_body 1 = .ok (.iconst 0, 1) := by decide +kernel
theorem dX10_body_2 : decode cX10_body 2 = .ok (.aload_n 0, 1) := by decide +kernel
theorem dX10_body_3 : decode cX10_body 3 = .ok (.getfield 219, 3) := by decide +kernel
theorem dX10_body_6 : decode cX10_body 6 = .ok (.iconst 1, 1) := by decide +kernel
theorem dX10_body_7 : decode cX10_body 7 = .ok (.isub, 1) := by decide +kernel
theorem dX10_body_8 : decode cX10_body 8 = .ok (.invokestatic 51, 3) := by decide +kernel
theorem dX10_body_11 : decode cX10_body 11 = .ok (.ifCond .eq 12, 3) := by decide +kernel
theorem dX10_body_14 : decode cX10_body 14 = .ok (.aload_n 0, 1) := by decide +kernel
theorem dX10_body_15 : decode cX10_body 15 = .ok (.getfield 43, 3) := by decide +kernel
theorem dX10_body_18 : decode cX10_body 18 = .ok (.iload_n 1, 1) := by decide +kernel
theorem dX10_body_19 : decode cX10_body 19 = .ok (.iaload, 1) := by decide +kernel
theorem dX10_body_20 : decode cX10_body 20 = .ok (.goto 9, 3) := by decide +kernel
theorem dX10_body_23 : decode cX10_body 23 = .ok (.aload_n 0, 1) := by decide +kernel
theorem dX10_body_24 : decode cX10_body 24 = .ok (.ldc 114, 2) := by decide +kernel
theorem dX10_body_26 : decode cX10_body 26 = .ok (.invokevirtual 91, 3) := by decide +kernel
theorem dX10_body_29 : decode cX10_body 29 = .ok (.ireturn, 1) := by decide +kernel
theorem dX10_isSheet_0 : decode cX10_isSheet 0 = .ok (.iload_n 0, 1) := by decide +kernel
theorem dX10_isSheet_1 : decode cX10_isSheet 1 = .ok (.iconst 0, 1) := by decide +kernel
theorem dX10_isSheet_2 : decode cX10_isSheet 2 = .ok (.iconst 3, 1) := by decide +kernel
theorem dX10_isSheet_3 : decode cX10_isSheet 3 = .ok (.invokestatic 51, 3) := by decide +kernel
theorem dX10_isSheet_6 : decode cX10_isSheet 6 = .ok (.ireturn, 1) := by decide +kernel
theorem dX10_sheet_0 : decode cX10_sheet 0 = .ok (.iload_n 1, 1) := by decide +kernel
theorem dX10_sheet_1 : decode cX10_sheet 1 = .ok (.invokestatic 213, 3) := by decide +kernel
theorem dX10_sheet_4 : decode cX10_sheet 4 = .ok (.ifCond .eq 25, 3) := by decide +kernel
theorem dX10_sheet_7 : decode cX10_sheet 7 = .ok (.iload_n 2, 1) := by decide +kernel
theorem dX10_sheet_8 : decode cX10_sheet 8 = .ok (.ifCond .eq 28, 3) := by decide +kernel
theorem dX10_sheet_11 : decode cX10_sheet 11 = .ok (.iload_n 2, 1) := by decide +kernel
theorem dX10_sheet_12 : decode cX10_sheet 12 = .ok (.bipush 8, 2) := by decide +kernel
theorem dX10_sheet_14 : decode cX10_sheet 14 = .ok (.if_icmp .eq 22, 3) := by decide +kernel
theorem dX10_sheet_17 : decode cX10_sheet 17 = .ok (.iload_n 2, 1) := by decide +kernel
theorem dX10_sheet_18 : decode cX10_sheet 18 = .ok (.bipush 16, 2) := by decide +kernel
theorem dX10_sheet_20 : decode cX10_sheet 20 = .ok (.if_icmp .eq 16, 3) := by decide +kernel
theorem dX10_sheet_23 : decode cX10_sheet 23 = .ok (.iload_n 2, 1) := by decide +kernel
theorem dX10_sheet_24 : decode cX10_sheet 24 = .ok (.bipush 32, 2) := by decide +kernel
theorem dX10_sheet_26 : decode cX10_sheet 26 = .ok (.if_icmp .eq 10, 3) := by decide +kernel
theorem dX10_sheet_29 : decode cX10_sheet 29 = .ok (.aload_n 0, 1) := by decide +kernel
theorem dX10_sheet_30 : decode cX10_sheet 30 = .ok (.ldc 90, 2) := by decide +kernel
theorem dX10_sheet_32 : decode cX10_sheet 32 = .ok (.invokevirtual 91, 3) := by decide +kernel
theorem dX10_sheet_35 : decode cX10_sheet 35 = .ok (.ireturn, 1) := by decide +kernel
theorem dX10_sheet_36 : decode cX10_sheet 36 = .ok (.iload_n 2, 1) := by decide +kernel
theorem dX10_sheet_37 : decode cX10_sheet 37 = .ok (.ifCond .le 14, 3) := by decide +kernel
theorem dX10_sheet_40 : decode cX10_sheet 40 = .ok (.iload_n 3, 1) := by decide +kernel
theorem dX10_sheet_41 : decode cX10_sheet 41 = .ok (.ifCond .ge 10, 3) := by decide +kernel
theorem dX10_sheet_44 : decode cX10_sheet 44 = .ok (.aload_n 0, 1) := by decide +kernel
theorem dX10_sheet_45 : decode cX10_sheet 45 = .ok (.ldc 109, 2) := by decide +kernel
theorem dX10_sheet_47 : decode cX10_sheet 47 = .ok (.invokevirtual 91, 3) := by decide +kernel
theorem dX10_sheet_50 : decode cX10_sheet 50 = .ok (.ireturn, 1) := by decide +kernel
theorem dX10_sheet_51 : decode cX10_sheet 51 = .ok (.iload_n 2, 1) := by decide +kernel
theorem dX10_sheet_52 : decode cX10_sheet 52 = .ok (.ifCond .le 16, 3) := by decide +kernel
theorem dX10_sheet_55 : decode cX10_sheet 55 = .ok (.iload_n 3, 1) := by decide +kernel
theorem dX10_sheet_56 : decode cX10_sheet 56 = .ok (.bipush 24, 2) := by decide +kernel
theorem dX10_sheet_58 : decode cX10_sheet 58 = .ok (.if_icmp .le 10, 3) := by decide +kernel
theorem dX10_sheet_61 : decode cX10_sheet 61 = .ok (.aload_n 0, 1) := by decide +kernel
theorem dX10_sheet_62 : decode cX10_sheet 62 = .ok (.ldc 90, 2) := by decide +kernel
theorem dX10_sheet_64 : decode cX10_sheet 64 = .ok (.invokevirtual 91, 3) := by decide +kernel
theorem dX10_sheet_67 : decode cX10_sheet 67 = .ok (.ireturn, 1) := by decide +kernel
theorem dX10_sheet_68 : decode cX10_sheet 68 = .ok (.aload_n 0, 1) := by decide +kernel
theorem dX10_sheet_69 : decode cX10_sheet 69 = .ok (.getfield 22, 3) := by decide +kernel
theorem dX10_sheet_72 : decode cX10_sheet 72 = .ok (.iload_n 1, 1) := by decide +kernel
theorem dX10_sheet_73 : decode cX10_sheet 73 = .ok (.iload_n 2, 1) := by decide +kernel
theorem dX10_sheet_74 : decode cX10_sheet 74 = .ok (.iastore, 1) := by decide +kernel
theorem dX10_sheet_75 : decode cX10_sheet 75 = .ok (.aload_n 0, 1) := by decide +kernel
theorem dX10_sheet_76 : decode cX10_sheet 76 = .ok (.getfield 25, 3) := by decide +kernel
theorem dX10_sheet_79 : decode cX10_sheet 79 = .ok (.iload_n 1, 1) := by decide +kernel
theorem dX10_sheet_80 : decode cX10_sheet 80 = .ok (.iload_n 2, 1) := by decide +kernel
theorem dX10_sheet_81 : decode cX10_sheet 81 = .ok (.ifCond .ne 7, 3) := by decide +kernel
theorem dX10_sheet_84 : decode cX10_sheet 84 = .ok (.iconst 0, 1) := by decide +kernel
theorem dX10_sheet_85 : decode cX10_sheet 85 = .ok (.goto 4, 3) := by decide +kernel
theorem dX10_sheet_88 : decode cX10_sheet 88 = .ok (.iload_n 3, 1) := by decide +kernel
theorem dX10_sheet_89 : decode cX10_sheet 89 = .ok (.iastore, 1) := by decide +kernel
theorem dX10_sheet_90 : decode cX10_sheet 90 = .ok (.iconst 0, 1) := by decide +kernel
theorem dX10_sheet_91 : decode cX10_sheet 91 = .ok (.istore 4, 2) := by decide +kernel
theorem dX10_sheet_93 : decode cX10_sheet 93 = .ok (.iload 4, 2) := by decide +kernel
theorem dX10_sheet_95 : decode cX10_sheet 95 = .ok (.bipush 24, 2) := by decide +kernel
theorem dX10_sheet_97 : decode cX10_sheet 97 = .ok (.if_icmp .ge 22, 3) := by decide +kernel
theorem dX10_sheet_100 : decode cX10_sheet 100 = .ok (.aload_n 0, 1) := by decide +kernel
theorem dX10_sheet_101 : decode cX10_sheet 101 = .ok (.getfield 28, 3) := by decide +kernel
theorem dX10_sheet_104 : decode cX10_sheet 104 = .ok (.bipush 24, 2) := by decide +kernel
theorem dX10_sheet_106 : decode cX10_sheet 106 = .ok (.iload_n 1, 1) := by decide +kernel
theorem dX10_sheet_107 : decode cX10_sheet 107 = .ok (.imul, 1) := by decide +kernel
theorem dX10_sheet_108 : decode cX10_sheet 108 = .ok (.iload 4, 2) := by decide +kernel
theorem dX10_sheet_110 : decode cX10_sheet 110 = .ok (.iadd, 1) := by decide +kernel
theorem dX10_sheet_111 : decode cX10_sheet 111 = .ok (.iconst 0, 1) := by decide +kernel
theorem dX10_sheet_112 : decode cX10_sheet 112 = .ok (.iastore, 1) := by decide +kernel
theorem dX10_sheet_113 : decode cX10_sheet 113 = .ok (.iinc 4 1, 3) := by decide +kernel
theorem dX10_sheet_116 : decode cX10_sheet 116 = .ok (.goto (-23), 3) := by decide +kernel
theorem dX10_sheet_119 : decode cX10_sheet 119 = .ok (.iconst 1, 1) := by decide +kernel
theorem dX10_sheet_120 : decode cX10_sheet 120 = .ok (.ireturn, 1) := by decide +kernel
theorem dX10_notThere_0 : decode cX10_notThere 0 = .ok (.iload_n 1, 1) := by decide +kernel
theorem dX10_notThere_1 : decode cX10_notThere 1 = .ok (.invokestatic 213, 3) := by decide +kernel
theorem dX10_notThere_4 : decode cX10_notThere 4 = .ok (.ifCond .ne 8, 3) := by decide +kernel
theorem dX10_notThere_7 : decode cX10_notThere 7 = .ok (.ldc 90, 2) := by decide +kernel
theorem dX10_notThere_9 : decode cX10_notThere 9 = .ok (.goto 18, 3) := by decide +kernel
theorem dX10_notThere_12 : decode cX10_notThere 12 = .ok (.aload_n 0, 1) := by decide +kernel
theorem dX10_notThere_13 : decode cX10_notThere 13 = .ok (.getfield 22, 3) := by decide +kernel
theorem dX10_notThere_16 : decode cX10_notThere 16 = .ok (.iload_n 1, 1) := by decide +kernel
theorem dX10_notThere_17 : decode cX10_notThere 17 = .ok (.iaload, 1) := by decide +kernel
theorem dX10_notThere_18 : decode cX10_notThere 18 = .ok (.ifCond .ne 8, 3) := by decide +kernel
theorem dX10_notThere_21 : decode cX10_notThere 21 = .ok (.ldc 114, 2) := by decide +kernel
theorem dX10_notThere_23 : decode cX10_notThere 23 = .ok (.goto 4, 3) := by decide +kernel
theorem dX10_notThere_26 : decode cX10_notThere 26 = .ok (.iconst 0, 1) := by decide +kernel
theorem dX10_notThere_27 : decode cX10_notThere 27 = .ok (.ireturn, 1) := by decide +kernel
theorem dX10_put_0 : decode cX10_put 0 = .ok (.aload_n 0, 1) := by decide +kernel
theorem dX10_put_1 : decode cX10_put 1 = .ok (.iload_n 1, 1) := by decide +kernel
theorem dX10_put_2 : decode cX10_put 2 = .ok (.invokevirtual 259, 3) := by decide +kernel
theorem dX10_put_5 : decode cX10_put 5 = .ok (.istore 4, 2) := by decide +kernel
theorem dX10_put_7 : decode cX10_put 7 = .ok (.iload 4, 2) := by decide +kernel
theorem dX10_put_9 : decode cX10_put 9 = .ok (.ifCond .ne 24, 3) := by decide +kernel
theorem dX10_put_12 : decode cX10_put 12 = .ok (.iload_n 2, 1) := by decide +kernel
theorem dX10_put_13 : decode cX10_put 13 = .ok (.iconst 0, 1) := by decide +kernel
theorem dX10_put_14 : decode cX10_put 14 = .ok (.aload_n 0, 1) := by decide +kernel
theorem dX10_put_15 : decode cX10_put 15 = .ok (.getfield 25, 3) := by decide +kernel
theorem dX10_put_18 : decode cX10_put 18 = .ok (.iload_n 1, 1) := by decide +kernel
theorem dX10_put_19 : decode cX10_put 19 = .ok (.iaload, 1) := by decide +kernel
theorem dX10_put_20 : decode cX10_put 20 = .ok (.iconst 1, 1) := by decide +kernel
theorem dX10_put_21 : decode cX10_put 21 = .ok (.isub, 1) := by decide +kernel
theorem dX10_put_22 : decode cX10_put 22 = .ok (.invokestatic 51, 3) := by decide +kernel
theorem dX10_put_25 : decode cX10_put 25 = .ok (.ifCond .ne 8, 3) := by decide +kernel
theorem dX10_put_28 : decode cX10_put 28 = .ok (.ldc 90, 2) := by decide +kernel
theorem dX10_put_30 : decode cX10_put 30 = .ok (.goto 5, 3) := by decide +kernel
theorem dX10_put_33 : decode cX10_put 33 = .ok (.iload 4, 2) := by decide +kernel
theorem dX10_put_35 : decode cX10_put 35 = .ok (.istore 4, 2) := by decide +kernel
theorem dX10_put_37 : decode cX10_put 37 = .ok (.iload 4, 2) := by decide +kernel
theorem dX10_put_39 : decode cX10_put 39 = .ok (.ifCond .eq 10, 3) := by decide +kernel
theorem dX10_put_42 : decode cX10_put 42 = .ok (.aload_n 0, 1) := by decide +kernel
theorem dX10_put_43 : decode cX10_put 43 = .ok (.iload 4, 2) := by decide +kernel
theorem dX10_put_45 : decode cX10_put 45 = .ok (.invokevirtual 91, 3) := by decide +kernel
theorem dX10_put_48 : decode cX10_put 48 = .ok (.ireturn, 1) := by decide +kernel
theorem dX10_put_49 : decode cX10_put 49 = .ok (.aload_n 0, 1) := by decide +kernel
theorem dX10_put_50 : decode cX10_put 50 = .ok (.getfield 28, 3) := by decide +kernel
theorem dX10_put_53 : decode cX10_put 53 = .ok (.bipush 24, 2) := by decide +kernel
theorem dX10_put_55 : decode cX10_put 55 = .ok (.iload_n 1, 1) := by decide +kernel
theorem dX10_put_56 : decode cX10_put 56 = .ok (.imul, 1) := by decide +kernel
theorem dX10_put_57 : decode cX10_put 57 = .ok (.iload_n 2, 1) := by decide +kernel
theorem dX10_put_58 : decode cX10_put 58 = .ok (.iadd, 1) := by decide +kernel
theorem dX10_put_59 : decode cX10_put 59 = .ok (.aload_n 0, 1) := by decide +kernel
theorem dX10_put_60 : decode cX10_put 60 = .ok (.getfield 22, 3) := by decide +kernel
theorem dX10_put_63 : decode cX10_put 63 = .ok (.iload_n 1, 1) := by decide +kernel
theorem dX10_put_64 : decode cX10_put 64 = .ok (.iaload, 1) := by decide +kernel
theorem dX10_put_65 : decode cX10_put 65 = .ok (.bipush 8, 2) := by decide +kernel
theorem dX10_put_67 : decode cX10_put 67 = .ok (.if_icmp .ne 8, 3) := by decide +kernel
theorem dX10_put_70 : decode cX10_put 70 = .ok (.iload_n 3, 1) := by decide +kernel
theorem dX10_put_71 : decode cX10_put 71 = .ok (.i2b, 1) := by decide +kernel
theorem dX10_put_72 : decode cX10_put 72 = .ok (.goto 20, 3) := by decide +kernel
theorem dX10_put_75 : decode cX10_put 75 = .ok (.aload_n 0, 1) := by decide +kernel
theorem dX10_put_76 : decode cX10_put 76 = .ok (.getfield 22, 3) := by decide +kernel
theorem dX10_put_79 : decode cX10_put 79 = .ok (.iload_n 1, 1) := by decide +kernel
theorem dX10_put_80 : decode cX10_put 80 = .ok (.iaload, 1) := by decide +kernel
theorem dX10_put_81 : decode cX10_put 81 = .ok (.bipush 16, 2) := by decide +kernel
theorem dX10_put_83 : decode cX10_put 83 = .ok (.if_icmp .ne 8, 3) := by decide +kernel
theorem dX10_put_86 : decode cX10_put 86 = .ok (.iload_n 3, 1) := by decide +kernel
theorem dX10_put_87 : decode cX10_put 87 = .ok (.i2s, 1) := by decide +kernel
theorem dX10_put_88 : decode cX10_put 88 = .ok (.goto 4, 3) := by decide +kernel
theorem dX10_put_91 : decode cX10_put 91 = .ok (.iload_n 3, 1) := by decide +kernel
theorem dX10_put_92 : decode cX10_put 92 = .ok (.iastore, 1) := by decide +kernel
theorem dX10_put_93 : decode cX10_put 93 = .ok (.iconst 1, 1) := by decide +kernel
theorem dX10_put_94 : decode cX10_put 94 = .ok (.ireturn, 1) := by decide +kernel
theorem dX10_notMoved_0 : decode cX10_notMoved 0 = .ok (.iload_n 1, 1) := by decide +kernel
theorem dX10_notMoved_1 : decode cX10_notMoved 1 = .ok (.invokestatic 213, 3) := by decide +kernel
theorem dX10_notMoved_4 : decode cX10_notMoved 4 = .ok (.ifCond .eq 10, 3) := by decide +kernel
theorem dX10_notMoved_7 : decode cX10_notMoved 7 = .ok (.iload_n 3, 1) := by decide +kernel
theorem dX10_notMoved_8 : decode cX10_notMoved 8 = .ok (.invokestatic 213, 3) := by decide +kernel
theorem dX10_notMoved_11 : decode cX10_notMoved 11 = .ok (.ifCond .ne 6, 3) := by decide +kernel
theorem dX10_notMoved_14 : decode cX10_notMoved 14 = .ok (.ldc 90, 2) := by decide +kernel
theorem dX10_notMoved_16 : decode cX10_notMoved 16 = .ok (.ireturn, 1) := by decide +kernel
theorem dX10_notMoved_17 : decode cX10_notMoved 17 = .ok (.aload_n 0, 1) := by decide +kernel
theorem dX10_notMoved_18 : decode cX10_notMoved 18 = .ok (.getfield 22, 3) := by decide +kernel
theorem dX10_notMoved_21 : decode cX10_notMoved 21 = .ok (.iload_n 1, 1) := by decide +kernel
theorem dX10_notMoved_22 : decode cX10_notMoved 22 = .ok (.iaload, 1) := by decide +kernel
theorem dX10_notMoved_23 : decode cX10_notMoved 23 = .ok (.ifCond .eq 12, 3) := by decide +kernel
theorem dX10_notMoved_26 : decode cX10_notMoved 26 = .ok (.aload_n 0, 1) := by decide +kernel
theorem dX10_notMoved_27 : decode cX10_notMoved 27 = .ok (.getfield 22, 3) := by decide +kernel
theorem dX10_notMoved_30 : decode cX10_notMoved 30 = .ok (.iload_n 3, 1) := by decide +kernel
theorem dX10_notMoved_31 : decode cX10_notMoved 31 = .ok (.iaload, 1) := by decide +kernel
theorem dX10_notMoved_32 : decode cX10_notMoved 32 = .ok (.ifCond .ne 6, 3) := by decide +kernel
theorem dX10_notMoved_35 : decode cX10_notMoved 35 = .ok (.ldc 114, 2) := by decide +kernel
theorem dX10_notMoved_37 : decode cX10_notMoved 37 = .ok (.ireturn, 1) := by decide +kernel
theorem dX10_notMoved_38 : decode cX10_notMoved 38 = .ok (.aload_n 0, 1) := by decide +kernel
theorem dX10_notMoved_39 : decode cX10_notMoved 39 = .ok (.getfield 22, 3) := by decide +kernel
theorem dX10_notMoved_42 : decode cX10_notMoved 42 = .ok (.iload_n 1, 1) := by decide +kernel
theorem dX10_notMoved_43 : decode cX10_notMoved 43 = .ok (.iaload, 1) := by decide +kernel
theorem dX10_notMoved_44 : decode cX10_notMoved 44 = .ok (.aload_n 0, 1) := by decide +kernel
theorem dX10_notMoved_45 : decode cX10_notMoved 45 = .ok (.getfield 22, 3) := by decide +kernel
theorem dX10_notMoved_48 : decode cX10_notMoved 48 = .ok (.iload_n 3, 1) := by decide +kernel
theorem dX10_notMoved_49 : decode cX10_notMoved 49 = .ok (.iaload, 1) := by decide +kernel
theorem dX10_notMoved_50 : decode cX10_notMoved 50 = .ok (.if_icmp .eq 6, 3) := by decide +kernel
theorem dX10_notMoved_53 : decode cX10_notMoved 53 = .ok (.ldc 108, 2) := by decide +kernel
theorem dX10_notMoved_55 : decode cX10_notMoved 55 = .ok (.ireturn, 1) := by decide +kernel
theorem dX10_notMoved_56 : decode cX10_notMoved 56 = .ok (.iload 5, 2) := by decide +kernel
theorem dX10_notMoved_58 : decode cX10_notMoved 58 = .ok (.ifCond .lt 43, 3) := by decide +kernel
theorem dX10_notMoved_61 : decode cX10_notMoved 61 = .ok (.iload_n 2, 1) := by decide +kernel
theorem dX10_notMoved_62 : decode cX10_notMoved 62 = .ok (.ifCond .lt 39, 3) := by decide +kernel
theorem dX10_notMoved_65 : decode cX10_notMoved 65 = .ok (.iload 4, 2) := by decide +kernel
theorem dX10_notMoved_67 : decode cX10_notMoved 67 = .ok (.ifCond .lt 34, 3) := by decide +kernel
theorem dX10_notMoved_70 : decode cX10_notMoved 70 = .ok (.iload 5, 2) := by decide +kernel
theorem dX10_notMoved_72 : decode cX10_notMoved 72 = .ok (.aload_n 0, 1) := by decide +kernel
theorem dX10_notMoved_73 : decode cX10_notMoved 73 = .ok (.getfield 25, 3) := by decide +kernel
theorem dX10_notMoved_76 : decode cX10_notMoved 76 = .ok (.iload_n 1, 1) := by decide +kernel
theorem dX10_notMoved_77 : decode cX10_notMoved 77 = .ok (.iaload, 1) := by decide +kernel
theorem dX10_notMoved_78 : decode cX10_notMoved 78 = .ok (.iload_n 2, 1) := by decide +kernel
theorem dX10_notMoved_79 : decode cX10_notMoved 79 = .ok (.isub, 1) := by decide +kernel
theorem dX10_notMoved_80 : decode cX10_notMoved 80 = .ok (.if_icmp .gt 21, 3) := by decide +kernel
theorem dX10_notMoved_83 : decode cX10_notMoved 83 = .ok (.iload 5, 2) := by decide +kernel
theorem dX10_notMoved_85 : decode cX10_notMoved 85 = .ok (.aload_n 0, 1) := by decide +kernel
theorem dX10_notMoved_86 : decode cX10_notMoved 86 = .ok (.getfield 25, 3) := by decide +kernel
theorem dX10_notMoved_89 : decode cX10_notMoved 89 = .ok (.iload_n 3, 1) := by decide +kernel
theorem dX10_notMoved_90 : decode cX10_notMoved 90 = .ok (.iaload, 1) := by decide +kernel
theorem dX10_notMoved_91 : decode cX10_notMoved 91 = .ok (.iload 4, 2) := by decide +kernel
theorem dX10_notMoved_93 : decode cX10_notMoved 93 = .ok (.isub, 1) := by decide +kernel
theorem dX10_notMoved_94 : decode cX10_notMoved 94 = .ok (.if_icmp .gt 7, 3) := by decide +kernel
theorem dX10_notMoved_97 : decode cX10_notMoved 97 = .ok (.iconst 1, 1) := by decide +kernel
theorem dX10_notMoved_98 : decode cX10_notMoved 98 = .ok (.goto 4, 3) := by decide +kernel
theorem dX10_notMoved_101 : decode cX10_notMoved 101 = .ok (.iconst 0, 1) := by decide +kernel
theorem dX10_notMoved_102 : decode cX10_notMoved 102 = .ok (.istore 6, 2) := by decide +kernel
theorem dX10_notMoved_104 : decode cX10_notMoved 104 = .ok (.iload 6, 2) := by decide +kernel
theorem dX10_notMoved_106 : decode cX10_notMoved 106 = .ok (.ifCond .eq 7, 3) := by decide +kernel
theorem dX10_notMoved_109 : decode cX10_notMoved 109 = .ok (.iconst 0, 1) := by decide +kernel
theorem dX10_notMoved_110 : decode cX10_notMoved 110 = .ok (.goto 5, 3) := by decide +kernel
theorem dX10_notMoved_113 : decode cX10_notMoved 113 = .ok (.ldc 90, 2) := by decide +kernel
theorem dX10_notMoved_115 : decode cX10_notMoved 115 = .ok (.ireturn, 1) := by decide +kernel
theorem dX10_move_0 : decode cX10_move 0 = .ok (.aload_n 0, 1) := by decide +kernel
theorem dX10_move_1 : decode cX10_move 1 = .ok (.iload_n 1, 1) := by decide +kernel
theorem dX10_move_2 : decode cX10_move 2 = .ok (.iload_n 2, 1) := by decide +kernel
theorem dX10_move_3 : decode cX10_move 3 = .ok (.iload_n 3, 1) := by decide +kernel
theorem dX10_move_4 : decode cX10_move 4 = .ok (.iload 4, 2) := by decide +kernel
theorem dX10_move_6 : decode cX10_move 6 = .ok (.iload 5, 2) := by decide +kernel
theorem dX10_move_8 : decode cX10_move 8 = .ok (.invokevirtual 262, 3) := by decide +kernel
theorem dX10_move_11 : decode cX10_move 11 = .ok (.istore 6, 2) := by decide +kernel
theorem dX10_move_13 : decode cX10_move 13 = .ok (.iload 6, 2) := by decide +kernel
theorem dX10_move_15 : decode cX10_move 15 = .ok (.ifCond .eq 10, 3) := by decide +kernel
theorem dX10_move_18 : decode cX10_move 18 = .ok (.aload_n 0, 1) := by decide +kernel
theorem dX10_move_19 : decode cX10_move 19 = .ok (.iload 6, 2) := by decide +kernel
theorem dX10_move_21 : decode cX10_move 21 = .ok (.invokevirtual 91, 3) := by decide +kernel
theorem dX10_move_24 : decode cX10_move 24 = .ok (.ireturn, 1) := by decide +kernel
theorem dX10_move_25 : decode cX10_move 25 = .ok (.iconst 0, 1) := by decide +kernel
theorem dX10_move_26 : decode cX10_move 26 = .ok (.istore 7, 2) := by decide +kernel
theorem dX10_move_28 : decode cX10_move 28 = .ok (.iload 7, 2) := by decide +kernel
theorem dX10_move_30 : decode cX10_move 30 = .ok (.iload 5, 2) := by decide +kernel
theorem dX10_move_32 : decode cX10_move 32 = .ok (.if_icmp .ge 58, 3) := by decide +kernel
theorem dX10_move_35 : decode cX10_move 35 = .ok (.iload_n 2, 1) := by decide +kernel
theorem dX10_move_36 : decode cX10_move 36 = .ok (.iload 4, 2) := by decide +kernel
theorem dX10_move_38 : decode cX10_move 38 = .ok (.if_icmp .ge 13, 3) := by decide +kernel
theorem dX10_move_41 : decode cX10_move 41 = .ok (.iload 5, 2) := by decide +kernel
theorem dX10_move_43 : decode cX10_move 43 = .ok (.iconst 1, 1) := by decide +kernel
theorem dX10_move_44 : decode cX10_move 44 = .ok (.isub, 1) := by decide +kernel
theorem dX10_move_45 : decode cX10_move 45 = .ok (.iload 7, 2) := by decide +kernel
theorem dX10_move_47 : decode cX10_move 47 = .ok (.isub, 1) := by decide +kernel
theorem dX10_move_48 : decode cX10_move 48 = .ok (.goto 5, 3) := by decide +kernel
theorem dX10_move_51 : decode cX10_move 51 = .ok (.iload 7, 2) := by decide +kernel
theorem dX10_move_53 : decode cX10_move 53 = .ok (.istore 8, 2) := by decide +kernel
theorem dX10_move_55 : decode cX10_move 55 = .ok (.aload_n 0, 1) := by decide +kernel
theorem dX10_move_56 : decode cX10_move 56 = .ok (.getfield 28, 3) := by decide +kernel
theorem dX10_move_59 : decode cX10_move 59 = .ok (.bipush 24, 2) := by decide +kernel
theorem dX10_move_61 : decode cX10_move 61 = .ok (.iload_n 3, 1) := by decide +kernel
theorem dX10_move_62 : decode cX10_move 62 = .ok (.imul, 1) := by decide +kernel
theorem dX10_move_63 : decode cX10_move 63 = .ok (.iload 4, 2) := by decide +kernel
theorem dX10_move_65 : decode cX10_move 65 = .ok (.iadd, 1) := by decide +kernel
theorem dX10_move_66 : decode cX10_move 66 = .ok (.iload 8, 2) := by decide +kernel
theorem dX10_move_68 : decode cX10_move 68 = .ok (.iadd, 1) := by decide +kernel
theorem dX10_move_69 : decode cX10_move 69 = .ok (.aload_n 0, 1) := by decide +kernel
theorem dX10_move_70 : decode cX10_move 70 = .ok (.getfield 28, 3) := by decide +kernel
theorem dX10_move_73 : decode cX10_move 73 = .ok (.bipush 24, 2) := by decide +kernel
theorem dX10_move_75 : decode cX10_move 75 = .ok (.iload_n 1, 1) := by decide +kernel
theorem dX10_move_76 : decode cX10_move 76 = .ok (.imul, 1) := by decide +kernel
theorem dX10_move_77 : decode cX10_move 77 = .ok (.iload_n 2, 1) := by decide +kernel
theorem dX10_move_78 : decode cX10_move 78 = .ok (.iadd, 1) := by decide +kernel
theorem dX10_move_79 : decode cX10_move 79 = .ok (.iload 8, 2) := by decide +kernel
theorem dX10_move_81 : decode cX10_move 81 = .ok (.iadd, 1) := by decide +kernel
theorem dX10_move_82 : decode cX10_move 82 = .ok (.iaload, 1) := by decide +kernel
theorem dX10_move_83 : decode cX10_move 83 = .ok (.iastore, 1) := by decide +kernel
theorem dX10_move_84 : decode cX10_move 84 = .ok (.iinc 7 1, 3) := by decide +kernel
theorem dX10_move_87 : decode cX10_move 87 = .ok (.goto (-59), 3) := by decide +kernel
theorem dX10_move_90 : decode cX10_move 90 = .ok (.iload 5, 2) := by decide +kernel
theorem dX10_move_92 : decode cX10_move 92 = .ok (.ireturn, 1) := by decide +kernel
theorem dX10_seenAll_0 : decode cX10_seenAll 0 = .ok (.aload_n 0, 1) := by decide +kernel
theorem dX10_seenAll_1 : decode cX10_seenAll 1 = .ok (.iload_n 1, 1) := by decide +kernel
theorem dX10_seenAll_2 : decode cX10_seenAll 2 = .ok (.invokevirtual 259, 3) := by decide +kernel
theorem dX10_seenAll_5 : decode cX10_seenAll 5 = .ok (.istore_n 2, 1) := by decide +kernel
theorem dX10_seenAll_6 : decode cX10_seenAll 6 = .ok (.iload_n 2, 1) := by decide +kernel
theorem dX10_seenAll_7 : decode cX10_seenAll 7 = .ok (.ifCond .eq 9, 3) := by decide +kernel
theorem dX10_seenAll_10 : decode cX10_seenAll 10 = .ok (.aload_n 0, 1) := by decide +kernel
theorem dX10_seenAll_11 : decode cX10_seenAll 11 = .ok (.iload_n 2, 1) := by decide +kernel
theorem dX10_seenAll_12 : decode cX10_seenAll 12 = .ok (.invokevirtual 91, 3) := by decide +kernel
theorem dX10_seenAll_15 : decode cX10_seenAll 15 = .ok (.ireturn, 1) := by decide +kernel
theorem dX10_seenAll_16 : decode cX10_seenAll 16 = .ok (.iconst 0, 1) := by decide +kernel
theorem dX10_seenAll_17 : decode cX10_seenAll 17 = .ok (.istore_n 3, 1) := by decide +kernel
theorem dX10_seenAll_18 : decode cX10_seenAll 18 = .ok (.iload_n 3, 1) := by decide +kernel
theorem dX10_seenAll_19 : decode cX10_seenAll 19 = .ok (.aload_n 0, 1) := by decide +kernel
theorem dX10_seenAll_20 : decode cX10_seenAll 20 = .ok (.getfield 25, 3) := by decide +kernel
theorem dX10_seenAll_23 : decode cX10_seenAll 23 = .ok (.iload_n 1, 1) := by decide +kernel
theorem dX10_seenAll_24 : decode cX10_seenAll 24 = .ok (.iaload, 1) := by decide +kernel
theorem dX10_seenAll_25 : decode cX10_seenAll 25 = .ok (.if_icmp .ge 58, 3) := by decide +kernel
theorem dX10_seenAll_28 : decode cX10_seenAll 28 = .ok (.iload_n 3, 1) := by decide +kernel
theorem dX10_seenAll_29 : decode cX10_seenAll 29 = .ok (.aload_n 0, 1) := by decide +kernel
theorem dX10_seenAll_30 : decode cX10_seenAll 30 = .ok (.getfield 9, 3) := by decide +kernel
theorem dX10_seenAll_33 : decode cX10_seenAll 33 = .ok (.iconst 2, 1) := by decide +kernel
theorem dX10_seenAll_34 : decode cX10_seenAll 34 = .ok (.iaload, 1) := by decide +kernel
theorem dX10_seenAll_35 : decode cX10_seenAll 35 = .ok (.if_icmp .ge 48, 3) := by decide +kernel
theorem dX10_seenAll_38 : decode cX10_seenAll 38 = .ok (.aload_n 0, 1) := by decide +kernel
theorem dX10_seenAll_39 : decode cX10_seenAll 39 = .ok (.getfield 28, 3) := by decide +kernel
theorem dX10_seenAll_42 : decode cX10_seenAll 42 = .ok (.bipush 24, 2) := by decide +kernel
theorem dX10_seenAll_44 : decode cX10_seenAll 44 = .ok (.iload_n 1, 1) := by decide +kernel
theorem dX10_seenAll_45 : decode cX10_seenAll 45 = .ok (.imul, 1) := by decide +kernel
theorem dX10_seenAll_46 : decode cX10_seenAll 46 = .ok (.iload_n 3, 1) := by decide +kernel
theorem dX10_seenAll_47 : decode cX10_seenAll 47 = .ok (.iadd, 1) := by decide +kernel
theorem dX10_seenAll_48 : decode cX10_seenAll 48 = .ok (.iaload, 1) := by decide +kernel
theorem dX10_seenAll_49 : decode cX10_seenAll 49 = .ok (.iconst 0, 1) := by decide +kernel
theorem dX10_seenAll_50 : decode cX10_seenAll 50 = .ok (.aload_n 0, 1) := by decide +kernel
theorem dX10_seenAll_51 : decode cX10_seenAll 51 = .ok (.invokevirtual 207, 3) := by decide +kernel
theorem dX10_seenAll_54 : decode cX10_seenAll 54 = .ok (.invokestatic 51, 3) := by decide +kernel
theorem dX10_seenAll_57 : decode cX10_seenAll 57 = .ok (.ifCond .eq 26, 3) := by decide +kernel
theorem dX10_seenAll_60 : decode cX10_seenAll 60 = .ok (.aload_n 0, 1) := by decide +kernel
theorem dX10_seenAll_61 : decode cX10_seenAll 61 = .ok (.iload_n 3, 1) := by decide +kernel
theorem dX10_seenAll_62 : decode cX10_seenAll 62 = .ok (.iconst 4, 1) := by decide +kernel
theorem dX10_seenAll_63 : decode cX10_seenAll 63 = .ok (.aload_n 0, 1) := by decide +kernel
theorem dX10_seenAll_64 : decode cX10_seenAll 64 = .ok (.getfield 28, 3) := by decide +kernel
theorem dX10_seenAll_67 : decode cX10_seenAll 67 = .ok (.bipush 24, 2) := by decide +kernel
theorem dX10_seenAll_69 : decode cX10_seenAll 69 = .ok (.iload_n 1, 1) := by decide +kernel
theorem dX10_seenAll_70 : decode cX10_seenAll 70 = .ok (.imul, 1) := by decide +kernel
theorem dX10_seenAll_71 : decode cX10_seenAll 71 = .ok (.iload_n 3, 1) := by decide +kernel
theorem dX10_seenAll_72 : decode cX10_seenAll 72 = .ok (.iadd, 1) := by decide +kernel
theorem dX10_seenAll_73 : decode cX10_seenAll 73 = .ok (.iaload, 1) := by decide +kernel
theorem dX10_seenAll_74 : decode cX10_seenAll 74 = .ok (.invokevirtual 95, 3) := by decide +kernel
theorem dX10_seenAll_77 : decode cX10_seenAll 77 = .ok (.iinc 3 1, 3) := by decide +kernel
theorem dX10_seenAll_80 : decode cX10_seenAll 80 = .ok (.goto (-62), 3) := by decide +kernel
theorem dX10_seenAll_83 : decode cX10_seenAll 83 = .ok (.iload_n 3, 1) := by decide +kernel
theorem dX10_seenAll_84 : decode cX10_seenAll 84 = .ok (.ireturn, 1) := by decide +kernel
theorem dX10_judge_0 : decode cX10_judge 0 = .ok (.aload_n 0, 1) := by decide +kernel
theorem dX10_judge_1 : decode cX10_judge 1 = .ok (.iload_n 1, 1) := by decide +kernel
theorem dX10_judge_2 : decode cX10_judge 2 = .ok (.invokevirtual 259, 3) := by decide +kernel
theorem dX10_judge_5 : decode cX10_judge 5 = .ok (.istore_n 2, 1) := by decide +kernel
theorem dX10_judge_6 : decode cX10_judge 6 = .ok (.iload_n 2, 1) := by decide +kernel
theorem dX10_judge_7 : decode cX10_judge 7 = .ok (.ifCond .eq 9, 3) := by decide +kernel
theorem dX10_judge_10 : decode cX10_judge 10 = .ok (.aload_n 0, 1) := by decide +kernel
theorem dX10_judge_11 : decode cX10_judge 11 = .ok (.iload_n 2, 1) := by decide +kernel
theorem dX10_judge_12 : decode cX10_judge 12 = .ok (.invokevirtual 91, 3) := by decide +kernel
theorem dX10_judge_15 : decode cX10_judge 15 = .ok (.ireturn, 1) := by decide +kernel
theorem dX10_judge_16 : decode cX10_judge 16 = .ok (.iconst 0, 1) := by decide +kernel
theorem dX10_judge_17 : decode cX10_judge 17 = .ok (.istore_n 3, 1) := by decide +kernel
theorem dX10_judge_18 : decode cX10_judge 18 = .ok (.iload_n 3, 1) := by decide +kernel
theorem dX10_judge_19 : decode cX10_judge 19 = .ok (.aload_n 0, 1) := by decide +kernel
theorem dX10_judge_20 : decode cX10_judge 20 = .ok (.getfield 25, 3) := by decide +kernel
theorem dX10_judge_23 : decode cX10_judge 23 = .ok (.iload_n 1, 1) := by decide +kernel
theorem dX10_judge_24 : decode cX10_judge 24 = .ok (.iaload, 1) := by decide +kernel
theorem dX10_judge_25 : decode cX10_judge 25 = .ok (.if_icmp .ge 39, 3) := by decide +kernel
theorem dX10_judge_28 : decode cX10_judge 28 = .ok (.iload_n 3, 1) := by decide +kernel
theorem dX10_judge_29 : decode cX10_judge 29 = .ok (.aload_n 0, 1) := by decide +kernel
theorem dX10_judge_30 : decode cX10_judge 30 = .ok (.getfield 9, 3) := by decide +kernel
theorem dX10_judge_33 : decode cX10_judge 33 = .ok (.iconst 2, 1) := by decide +kernel
theorem dX10_judge_34 : decode cX10_judge 34 = .ok (.iaload, 1) := by decide +kernel
theorem dX10_judge_35 : decode cX10_judge 35 = .ok (.if_icmp .ge 29, 3) := by decide +kernel
theorem dX10_judge_38 : decode cX10_judge 38 = .ok (.aload_n 0, 1) := by decide +kernel
theorem dX10_judge_39 : decode cX10_judge 39 = .ok (.getfield 28, 3) := by decide +kernel
theorem dX10_judge_42 : decode cX10_judge 42 = .ok (.bipush 24, 2) := by decide +kernel
theorem dX10_judge_44 : decode cX10_judge 44 = .ok (.iload_n 1, 1) := by decide +kernel
theorem dX10_judge_45 : decode cX10_judge 45 = .ok (.imul, 1) := by decide +kernel
theorem dX10_judge_46 : decode cX10_judge 46 = .ok (.iload_n 3, 1) := by decide +kernel
theorem dX10_judge_47 : decode cX10_judge 47 = .ok (.iadd, 1) := by decide +kernel
theorem dX10_judge_48 : decode cX10_judge 48 = .ok (.iaload, 1) := by decide +kernel
theorem dX10_judge_49 : decode cX10_judge 49 = .ok (.aload_n 0, 1) := by decide +kernel
theorem dX10_judge_50 : decode cX10_judge 50 = .ok (.iload_n 3, 1) := by decide +kernel
theorem dX10_judge_51 : decode cX10_judge 51 = .ok (.iconst 2, 1) := by decide +kernel
theorem dX10_judge_52 : decode cX10_judge 52 = .ok (.invokevirtual 55, 3) := by decide +kernel
theorem dX10_judge_55 : decode cX10_judge 55 = .ok (.if_icmp .ne 9, 3) := by decide +kernel
theorem dX10_judge_58 : decode cX10_judge 58 = .ok (.iinc 3 1, 3) := by decide +kernel
theorem dX10_judge_61 : decode cX10_judge 61 = .ok (.goto (-43), 3) := by decide +kernel
theorem dX10_judge_64 : decode cX10_judge 64 = .ok (.iload_n 3, 1) := by decide +kernel
theorem dX10_judge_65 : decode cX10_judge 65 = .ok (.ireturn, 1) := by decide +kernel
theorem dX10_image_0 : decode cX10_image 0 = .ok (.aload_n 0, 1) := by decide +kernel
theorem dX10_image_1 : decode cX10_image 1 = .ok (.getfield 9, 3) := by decide +kernel
theorem dX10_image_4 : decode cX10_image 4 = .ok (.aload_n 0, 1) := by decide +kernel
theorem dX10_image_5 : decode cX10_image 5 = .ok (.getfield 13, 3) := by decide +kernel
theorem dX10_image_8 : decode cX10_image 8 = .ok (.invokestatic 47, 3) := by decide +kernel
theorem dX10_image_11 : decode cX10_image 11 = .ok (.aload_n 0, 1) := by decide +kernel
theorem dX10_image_12 : decode cX10_image 12 = .ok (.dup, 1) := by decide +kernel
theorem dX10_image_13 : decode cX10_image 13 = .ok (.getfield 266, 3) := by decide +kernel
theorem dX10_image_16 : decode cX10_image 16 = .ok (.iconst 1, 1) := by decide +kernel
theorem dX10_image_17 : decode cX10_image 17 = .ok (.iadd, 1) := by decide +kernel
theorem dX10_image_18 : decode cX10_image 18 = .ok (.putfield 266, 3) := by decide +kernel
theorem dX10_image_21 : decode cX10_image 21 = .ok (.aload_n 0, 1) := by decide +kernel
theorem dX10_image_22 : decode cX10_image 22 = .ok (.getfield 266, 3) := by decide +kernel
theorem dX10_image_25 : decode cX10_image 25 = .ok (.ireturn, 1) := by decide +kernel
theorem dX10_restore_0 : decode cX10_restore 0 = .ok (.aload_n 0, 1) := by decide +kernel
theorem dX10_restore_1 : decode cX10_restore 1 = .ok (.getfield 266, 3) := by decide +kernel
theorem dX10_restore_4 : decode cX10_restore 4 = .ok (.ifCond .ne 10, 3) := by decide +kernel
theorem dX10_restore_7 : decode cX10_restore 7 = .ok (.aload_n 0, 1) := by decide +kernel
theorem dX10_restore_8 : decode cX10_restore 8 = .ok (.ldc 114, 2) := by decide +kernel
theorem dX10_restore_10 : decode cX10_restore 10 = .ok (.invokevirtual 91, 3) := by decide +kernel
theorem dX10_restore_13 : decode cX10_restore 13 = .ok (.ireturn, 1) := by decide +kernel
theorem dX10_restore_14 : decode cX10_restore 14 = .ok (.aload_n 0, 1) := by decide +kernel
theorem dX10_restore_15 : decode cX10_restore 15 = .ok (.getfield 13, 3) := by decide +kernel
theorem dX10_restore_18 : decode cX10_restore 18 = .ok (.aload_n 0, 1) := by decide +kernel
theorem dX10_restore_19 : decode cX10_restore 19 = .ok (.getfield 9, 3) := by decide +kernel
theorem dX10_restore_22 : decode cX10_restore 22 = .ok (.invokestatic 47, 3) := by decide +kernel
theorem dX10_restore_25 : decode cX10_restore 25 = .ok (.aload_n 0, 1) := by decide +kernel
theorem dX10_restore_26 : decode cX10_restore 26 = .ok (.getfield 9, 3) := by decide +kernel
theorem dX10_restore_29 : decode cX10_restore 29 = .ok (.iconst 0, 1) := by decide +kernel
theorem dX10_restore_30 : decode cX10_restore 30 = .ok (.iaload, 1) := by decide +kernel
theorem dX10_restore_31 : decode cX10_restore 31 = .ok (.ireturn, 1) := by decide +kernel
theorem dX10_tell_0 : decode cX10_tell 0 = .ok (.aload_n 0, 1) := by decide +kernel
theorem dX10_tell_1 : decode cX10_tell 1 = .ok (.getfield 9, 3) := by decide +kernel
theorem dX10_tell_4 : decode cX10_tell 4 = .ok (.bipush 6, 2) := by decide +kernel
theorem dX10_tell_6 : decode cX10_tell 6 = .ok (.iaload, 1) := by decide +kernel
theorem dX10_tell_7 : decode cX10_tell 7 = .ok (.bipush 24, 2) := by decide +kernel
theorem dX10_tell_9 : decode cX10_tell 9 = .ok (.if_icmp .ne 10, 3) := by decide +kernel
theorem dX10_tell_12 : decode cX10_tell 12 = .ok (.aload_n 0, 1) := by decide +kernel
theorem dX10_tell_13 : decode cX10_tell 13 = .ok (.ldc 94, 2) := by decide +kernel
theorem dX10_tell_15 : decode cX10_tell 15 = .ok (.invokevirtual 91, 3) := by decide +kernel
theorem dX10_tell_18 : decode cX10_tell 18 = .ok (.ireturn, 1) := by decide +kernel
theorem dX10_tell_19 : decode cX10_tell 19 = .ok (.aload_n 0, 1) := by decide +kernel
theorem dX10_tell_20 : decode cX10_tell 20 = .ok (.getfield 9, 3) := by decide +kernel
theorem dX10_tell_23 : decode cX10_tell 23 = .ok (.bipush 119, 2) := by decide +kernel
theorem dX10_tell_25 : decode cX10_tell 25 = .ok (.aload_n 0, 1) := by decide +kernel
theorem dX10_tell_26 : decode cX10_tell 26 = .ok (.getfield 9, 3) := by decide +kernel
theorem dX10_tell_29 : decode cX10_tell 29 = .ok (.bipush 6, 2) := by decide +kernel
theorem dX10_tell_31 : decode cX10_tell 31 = .ok (.iaload, 1) := by decide +kernel
theorem dX10_tell_32 : decode cX10_tell 32 = .ok (.iadd, 1) := by decide +kernel
theorem dX10_tell_33 : decode cX10_tell 33 = .ok (.iload_n 1, 1) := by decide +kernel
theorem dX10_tell_34 : decode cX10_tell 34 = .ok (.iastore, 1) := by decide +kernel
theorem dX10_tell_35 : decode cX10_tell 35 = .ok (.aload_n 0, 1) := by decide +kernel
theorem dX10_tell_36 : decode cX10_tell 36 = .ok (.getfield 9, 3) := by decide +kernel
theorem dX10_tell_39 : decode cX10_tell 39 = .ok (.bipush 6, 2) := by decide +kernel
theorem dX10_tell_41 : decode cX10_tell 41 = .ok (.dup2, 1) := by decide +kernel
theorem dX10_tell_42 : decode cX10_tell 42 = .ok (.iaload, 1) := by decide +kernel
theorem dX10_tell_43 : decode cX10_tell 43 = .ok (.iconst 1, 1) := by decide +kernel
theorem dX10_tell_44 : decode cX10_tell 44 = .ok (.iadd, 1) := by decide +kernel
theorem dX10_tell_45 : decode cX10_tell 45 = .ok (.iastore, 1) := by decide +kernel
theorem dX10_tell_46 : decode cX10_tell 46 = .ok (.aload_n 0, 1) := by decide +kernel
theorem dX10_tell_47 : decode cX10_tell 47 = .ok (.getfield 9, 3) := by decide +kernel
theorem dX10_tell_50 : decode cX10_tell 50 = .ok (.bipush 6, 2) := by decide +kernel
theorem dX10_tell_52 : decode cX10_tell 52 = .ok (.iaload, 1) := by decide +kernel
theorem dX10_tell_53 : decode cX10_tell 53 = .ok (.ireturn, 1) := by decide +kernel
theorem dX10_check_0 : decode cX10_check 0 = .ok (.aload_n 0, 1) := by decide +kernel
theorem dX10_check_1 : decode cX10_check 1 = .ok (.getfield 9, 3) := by decide +kernel
theorem dX10_check_4 : decode cX10_check 4 = .ok (.bipush 6, 2) := by decide +kernel
theorem dX10_check_6 : decode cX10_check 6 = .ok (.iaload, 1) := by decide +kernel
theorem dX10_check_7 : decode cX10_check 7 = .ok (.istore_n 1, 1) := by decide +kernel
theorem dX10_check_8 : decode cX10_check 8 = .ok (.aload_n 0, 1) := by decide +kernel
theorem dX10_check_9 : decode cX10_check 9 = .ok (.getfield 9, 3) := by decide +kernel
theorem dX10_check_12 : decode cX10_check 12 = .ok (.bipush 6, 2) := by decide +kernel
theorem dX10_check_14 : decode cX10_check 14 = .ok (.iconst 0, 1) := by decide +kernel
theorem dX10_check_15 : decode cX10_check 15 = .ok (.iastore, 1) := by decide +kernel
theorem dX10_check_16 : decode cX10_check 16 = .ok (.iconst 0, 1) := by decide +kernel
theorem dX10_check_17 : decode cX10_check 17 = .ok (.istore_n 2, 1) := by decide +kernel
theorem dX10_check_18 : decode cX10_check 18 = .ok (.iload_n 2, 1) := by decide +kernel
theorem dX10_check_19 : decode cX10_check 19 = .ok (.iload_n 1, 1) := by decide +kernel
theorem dX10_check_20 : decode cX10_check 20 = .ok (.if_icmp .ge 38, 3) := by decide +kernel
theorem dX10_check_23 : decode cX10_check 23 = .ok (.aload_n 0, 1) := by decide +kernel
theorem dX10_check_24 : decode cX10_check 24 = .ok (.iload_n 2, 1) := by decide +kernel
theorem dX10_check_25 : decode cX10_check 25 = .ok (.invokevirtual 99, 3) := by decide +kernel
theorem dX10_check_28 : decode cX10_check 28 = .ok (.ifCond .eq 20, 3) := by decide +kernel
theorem dX10_check_31 : decode cX10_check 31 = .ok (.aload_n 0, 1) := by decide +kernel
theorem dX10_check_32 : decode cX10_check 32 = .ok (.getfield 9, 3) := by decide +kernel
theorem dX10_check_35 : decode cX10_check 35 = .ok (.bipush 119, 2) := by decide +kernel
theorem dX10_check_37 : decode cX10_check 37 = .ok (.iload_n 2, 1) := by decide +kernel
theorem dX10_check_38 : decode cX10_check 38 = .ok (.iadd, 1) := by decide +kernel
theorem dX10_check_39 : decode cX10_check 39 = .ok (.iaload, 1) := by decide +kernel
theorem dX10_check_40 : decode cX10_check 40 = .ok (.aload_n 0, 1) := by decide +kernel
theorem dX10_check_41 : decode cX10_check 41 = .ok (.iload_n 2, 1) := by decide +kernel
theorem dX10_check_42 : decode cX10_check 42 = .ok (.invokevirtual 102, 3) := by decide +kernel
theorem dX10_check_45 : decode cX10_check 45 = .ok (.if_icmp .eq 7, 3) := by decide +kernel
theorem dX10_check_48 : decode cX10_check 48 = .ok (.iconst 1, 1) := by decide +kernel
theorem dX10_check_49 : decode cX10_check 49 = .ok (.iload_n 2, 1) := by decide +kernel
theorem dX10_check_50 : decode cX10_check 50 = .ok (.iadd, 1) := by decide +kernel
theorem dX10_check_51 : decode cX10_check 51 = .ok (.ireturn, 1) := by decide +kernel
theorem dX10_check_52 : decode cX10_check 52 = .ok (.iinc 2 1, 3) := by decide +kernel
theorem dX10_check_55 : decode cX10_check 55 = .ok (.goto (-37), 3) := by decide +kernel
theorem dX10_check_58 : decode cX10_check 58 = .ok (.iconst 0, 1) := by decide +kernel
theorem dX10_check_59 : decode cX10_check 59 = .ok (.ireturn, 1) := by decide +kernel
theorem dX10_count_0 : decode cX10_count 0 = .ok (.iload_n 1, 1) := by decide +kernel
theorem dX10_count_1 : decode cX10_count 1 = .ok (.tableswitch 111 0 8 #[51, 58, 65, 72, 79, 84, 91, 99, 104], 51) := by decide +kernel
theorem dX10_count_52 : decode cX10_count 52 = .ok (.aload_n 0, 1) := by decide +kernel
theorem dX10_count_53 : decode cX10_count 53 = .ok (.getfield 9, 3) := by decide +kernel
theorem dX10_count_56 : decode cX10_count 56 = .ok (.iconst 2, 1) := by decide +kernel
theorem dX10_count_57 : decode cX10_count 57 = .ok (.iaload, 1) := by decide +kernel
theorem dX10_count_58 : decode cX10_count 58 = .ok (.ireturn, 1) := by decide +kernel
theorem dX10_count_59 : decode cX10_count 59 = .ok (.aload_n 0, 1) := by decide +kernel
theorem dX10_count_60 : decode cX10_count 60 = .ok (.getfield 9, 3) := by decide +kernel
theorem dX10_count_63 : decode cX10_count 63 = .ok (.iconst 0, 1) := by decide +kernel
theorem dX10_count_64 : decode cX10_count 64 = .ok (.iaload, 1) := by decide +kernel
theorem dX10_count_65 : decode cX10_count 65 = .ok (.ireturn, 1) := by decide +kernel
theorem dX10_count_66 : decode cX10_count 66 = .ok (.aload_n 0, 1) := by decide +kernel
theorem dX10_count_67 : decode cX10_count 67 = .ok (.getfield 9, 3) := by decide +kernel
theorem dX10_count_70 : decode cX10_count 70 = .ok (.iconst 3, 1) := by decide +kernel
theorem dX10_count_71 : decode cX10_count 71 = .ok (.iaload, 1) := by decide +kernel
theorem dX10_count_72 : decode cX10_count 72 = .ok (.ireturn, 1) := by decide +kernel
theorem dX10_count_73 : decode cX10_count 73 = .ok (.aload_n 0, 1) := by decide +kernel
theorem dX10_count_74 : decode cX10_count 74 = .ok (.getfield 9, 3) := by decide +kernel
theorem dX10_count_77 : decode cX10_count 77 = .ok (.iconst 4, 1) := by decide +kernel
theorem dX10_count_78 : decode cX10_count 78 = .ok (.iaload, 1) := by decide +kernel
theorem dX10_count_79 : decode cX10_count 79 = .ok (.ireturn, 1) := by decide +kernel
theorem dX10_count_80 : decode cX10_count 80 = .ok (.aload_n 0, 1) := by decide +kernel
theorem dX10_count_81 : decode cX10_count 81 = .ok (.invokevirtual 188, 3) := by decide +kernel
theorem dX10_count_84 : decode cX10_count 84 = .ok (.ireturn, 1) := by decide +kernel
theorem dX10_count_85 : decode cX10_count 85 = .ok (.aload_n 0, 1) := by decide +kernel
theorem dX10_count_86 : decode cX10_count 86 = .ok (.getfield 9, 3) := by decide +kernel
theorem dX10_count_89 : decode cX10_count 89 = .ok (.iconst 5, 1) := by decide +kernel
theorem dX10_count_90 : decode cX10_count 90 = .ok (.iaload, 1) := by decide +kernel
theorem dX10_count_91 : decode cX10_count 91 = .ok (.ireturn, 1) := by decide +kernel
theorem dX10_count_92 : decode cX10_count 92 = .ok (.aload_n 0, 1) := by decide +kernel
theorem dX10_count_93 : decode cX10_count 93 = .ok (.getfield 9, 3) := by decide +kernel
theorem dX10_count_96 : decode cX10_count 96 = .ok (.bipush 6, 2) := by decide +kernel
theorem dX10_count_98 : decode cX10_count 98 = .ok (.iaload, 1) := by decide +kernel
theorem dX10_count_99 : decode cX10_count 99 = .ok (.ireturn, 1) := by decide +kernel
theorem dX10_count_100 : decode cX10_count 100 = .ok (.aload_n 0, 1) := by decide +kernel
theorem dX10_count_101 : decode cX10_count 101 = .ok (.getfield 219, 3) := by decide +kernel
theorem dX10_count_104 : decode cX10_count 104 = .ok (.ireturn, 1) := by decide +kernel
theorem dX10_count_105 : decode cX10_count 105 = .ok (.aload_n 0, 1) := by decide +kernel
theorem dX10_count_106 : decode cX10_count 106 = .ok (.getfield 9, 3) := by decide +kernel
theorem dX10_count_109 : decode cX10_count 109 = .ok (.iconst 1, 1) := by decide +kernel
theorem dX10_count_110 : decode cX10_count 110 = .ok (.iaload, 1) := by decide +kernel
theorem dX10_count_111 : decode cX10_count 111 = .ok (.ireturn, 1) := by decide +kernel
theorem dX10_count_112 : decode cX10_count 112 = .ok (.aload_n 0, 1) := by decide +kernel
theorem dX10_count_113 : decode cX10_count 113 = .ok (.ldc 90, 2) := by decide +kernel
theorem dX10_count_115 : decode cX10_count 115 = .ok (.invokevirtual 91, 3) := by decide +kernel
theorem dX10_count_118 : decode cX10_count 118 = .ok (.ireturn, 1) := by decide +kernel
theorem dX10_told_0 : decode cX10_told 0 = .ok (.iload_n 1, 1) := by decide +kernel
theorem dX10_told_1 : decode cX10_told 1 = .ok (.iconst 1, 1) := by decide +kernel
theorem dX10_told_2 : decode cX10_told 2 = .ok (.bipush 6, 2) := by decide +kernel
theorem dX10_told_4 : decode cX10_told 4 = .ok (.invokestatic 51, 3) := by decide +kernel
theorem dX10_told_7 : decode cX10_told 7 = .ok (.ifCond .eq 12, 3) := by decide +kernel
theorem dX10_told_10 : decode cX10_told 10 = .ok (.aload_n 0, 1) := by decide +kernel
theorem dX10_told_11 : decode cX10_told 11 = .ok (.getfield 19, 3) := by decide +kernel
theorem dX10_told_14 : decode cX10_told 14 = .ok (.iload_n 1, 1) := by decide +kernel
theorem dX10_told_15 : decode cX10_told 15 = .ok (.iaload, 1) := by decide +kernel
theorem dX10_told_16 : decode cX10_told 16 = .ok (.goto 9, 3) := by decide +kernel
theorem dX10_told_19 : decode cX10_told 19 = .ok (.aload_n 0, 1) := by decide +kernel
theorem dX10_told_20 : decode cX10_told 20 = .ok (.ldc 90, 2) := by decide +kernel
theorem dX10_told_22 : decode cX10_told 22 = .ok (.invokevirtual 91, 3) := by decide +kernel
theorem dX10_told_25 : decode cX10_told 25 = .ok (.ireturn, 1) := by decide +kernel
theorem dJ11_isValidCodePoint_9a6ad_0 : decode cJ11_isValidCodePoint_9a6ad 0 = .ok (.iload_n 0, 1) := by decide +kernel
theorem dJ11_isValidCodePoint_9a6ad_1 : decode cJ11_isValidCodePoint_9a6ad 1 = .ok (.bipush 16, 2) := by decide +kernel
theorem dJ11_isValidCodePoint_9a6ad_3 : decode cJ11_isValidCodePoint_9a6ad 3 = .ok (.iushr, 1) := by decide +kernel
theorem dJ11_isValidCodePoint_9a6ad_4 : decode cJ11_isValidCodePoint_9a6ad 4 = .ok (.istore_n 1, 1) := by decide +kernel
theorem dJ11_isValidCodePoint_9a6ad_5 : decode cJ11_isValidCodePoint_9a6ad 5 = .ok (.iload_n 1, 1) := by decide +kernel
theorem dJ11_isValidCodePoint_9a6ad_6 : decode cJ11_isValidCodePoint_9a6ad 6 = .ok (.bipush 17, 2) := by decide +kernel
theorem dJ11_isValidCodePoint_9a6ad_8 : decode cJ11_isValidCodePoint_9a6ad 8 = .ok (.if_icmp .ge 7, 3) := by decide +kernel
theorem dJ11_isValidCodePoint_9a6ad_11 : decode cJ11_isValidCodePoint_9a6ad 11 = .ok (.iconst 1, 1) := by decide +kernel
theorem dJ11_isValidCodePoint_9a6ad_12 : decode cJ11_isValidCodePoint_9a6ad 12 = .ok (.goto 4, 3) := by decide +kernel
theorem dJ11_isValidCodePoint_9a6ad_15 : decode cJ11_isValidCodePoint_9a6ad 15 = .ok (.iconst 0, 1) := by decide +kernel
theorem dJ11_isValidCodePoint_9a6ad_16 : decode cJ11_isValidCodePoint_9a6ad 16 = .ok (.ireturn, 1) := by decide +kernel
theorem dJ11_highSurrogate_5068e_0 : decode cJ11_highSurrogate_5068e 0 = .ok (.iload_n 0, 1) := by decide +kernel
theorem dJ11_highSurrogate_5068e_1 : decode cJ11_highSurrogate_5068e 1 = .ok (.bipush 10, 2) := by decide +kernel
theorem dJ11_highSurrogate_5068e_3 : decode cJ11_highSurrogate_5068e 3 = .ok (.iushr, 1) := by decide +kernel
theorem dJ11_highSurrogate_5068e_4 : decode cJ11_highSurrogate_5068e 4 = .ok (.ldc 110, 2) := by decide +kernel
theorem dJ11_highSurrogate_5068e_6 : decode cJ11_highSurrogate_5068e 6 = .ok (.iadd, 1) := by decide +kernel
theorem dJ11_highSurrogate_5068e_7 : decode cJ11_highSurrogate_5068e 7 = .ok (.i2c, 1) := by decide +kernel
theorem dJ11_highSurrogate_5068e_8 : decode cJ11_highSurrogate_5068e 8 = .ok (.ireturn, 1) := by decide +kernel
theorem dJ11_lowSurrogate_5068e_0 : decode cJ11_lowSurrogate_5068e 0 = .ok (.iload_n 0, 1) := by decide +kernel
theorem dJ11_lowSurrogate_5068e_1 : decode cJ11_lowSurrogate_5068e 1 = .ok (.sipush 1023, 3) := by decide +kernel
theorem dJ11_lowSurrogate_5068e_4 : decode cJ11_lowSurrogate_5068e 4 = .ok (.iand, 1) := by decide +kernel
theorem dJ11_lowSurrogate_5068e_5 : decode cJ11_lowSurrogate_5068e 5 = .ok (.ldc 76, 2) := by decide +kernel
theorem dJ11_lowSurrogate_5068e_7 : decode cJ11_lowSurrogate_5068e 7 = .ok (.iadd, 1) := by decide +kernel
theorem dJ11_lowSurrogate_5068e_8 : decode cJ11_lowSurrogate_5068e 8 = .ok (.i2c, 1) := by decide +kernel
theorem dJ11_lowSurrogate_5068e_9 : decode cJ11_lowSurrogate_5068e 9 = .ok (.ireturn, 1) := by decide +kernel
theorem dJ6_bitCount_0f7a4_0 : decode cJ6_bitCount_0f7a4 0 = .ok (.iload_n 0, 1) := by decide +kernel
theorem dJ6_bitCount_0f7a4_1 : decode cJ6_bitCount_0f7a4 1 = .ok (.iload_n 0, 1) := by decide +kernel
theorem dJ6_bitCount_0f7a4_2 : decode cJ6_bitCount_0f7a4 2 = .ok (.iconst 1, 1) := by decide +kernel
theorem dJ6_bitCount_0f7a4_3 : decode cJ6_bitCount_0f7a4 3 = .ok (.iushr, 1) := by decide +kernel
theorem dJ6_bitCount_0f7a4_4 : decode cJ6_bitCount_0f7a4 4 = .ok (.ldc_w 265, 3) := by decide +kernel
theorem dJ6_bitCount_0f7a4_7 : decode cJ6_bitCount_0f7a4 7 = .ok (.iand, 1) := by decide +kernel
theorem dJ6_bitCount_0f7a4_8 : decode cJ6_bitCount_0f7a4 8 = .ok (.isub, 1) := by decide +kernel
theorem dJ6_bitCount_0f7a4_9 : decode cJ6_bitCount_0f7a4 9 = .ok (.istore_n 0, 1) := by decide +kernel
theorem dJ6_bitCount_0f7a4_10 : decode cJ6_bitCount_0f7a4 10 = .ok (.iload_n 0, 1) := by decide +kernel
theorem dJ6_bitCount_0f7a4_11 : decode cJ6_bitCount_0f7a4 11 = .ok (.ldc_w 266, 3) := by decide +kernel
theorem dJ6_bitCount_0f7a4_14 : decode cJ6_bitCount_0f7a4 14 = .ok (.iand, 1) := by decide +kernel
theorem dJ6_bitCount_0f7a4_15 : decode cJ6_bitCount_0f7a4 15 = .ok (.iload_n 0, 1) := by decide +kernel
theorem dJ6_bitCount_0f7a4_16 : decode cJ6_bitCount_0f7a4 16 = .ok (.iconst 2, 1) := by decide +kernel
theorem dJ6_bitCount_0f7a4_17 : decode cJ6_bitCount_0f7a4 17 = .ok (.iushr, 1) := by decide +kernel
theorem dJ6_bitCount_0f7a4_18 : decode cJ6_bitCount_0f7a4 18 = .ok (.ldc_w 266, 3) := by decide +kernel
theorem dJ6_bitCount_0f7a4_21 : decode cJ6_bitCount_0f7a4 21 = .ok (.iand, 1) := by decide +kernel
theorem dJ6_bitCount_0f7a4_22 : decode cJ6_bitCount_0f7a4 22 = .ok (.iadd, 1) := by decide +kernel
theorem dJ6_bitCount_0f7a4_23 : decode cJ6_bitCount_0f7a4 23 = .ok (.istore_n 0, 1) := by decide +kernel
theorem dJ6_bitCount_0f7a4_24 : decode cJ6_bitCount_0f7a4 24 = .ok (.iload_n 0, 1) := by decide +kernel
theorem dJ6_bitCount_0f7a4_25 : decode cJ6_bitCount_0f7a4 25 = .ok (.iload_n 0, 1) := by decide +kernel
theorem dJ6_bitCount_0f7a4_26 : decode cJ6_bitCount_0f7a4 26 = .ok (.iconst 4, 1) := by decide +kernel
theorem dJ6_bitCount_0f7a4_27 : decode cJ6_bitCount_0f7a4 27 = .ok (.iushr, 1) := by decide +kernel
theorem dJ6_bitCount_0f7a4_28 : decode cJ6_bitCount_0f7a4 28 = .ok (.iadd, 1) := by decide +kernel
theorem dJ6_bitCount_0f7a4_29 : decode cJ6_bitCount_0f7a4 29 = .ok (.ldc_w 267, 3) := by decide +kernel
theorem dJ6_bitCount_0f7a4_32 : decode cJ6_bitCount_0f7a4 32 = .ok (.iand, 1) := by decide +kernel
theorem dJ6_bitCount_0f7a4_33 : decode cJ6_bitCount_0f7a4 33 = .ok (.istore_n 0, 1) := by decide +kernel
theorem dJ6_bitCount_0f7a4_34 : decode cJ6_bitCount_0f7a4 34 = .ok (.iload_n 0, 1) := by decide +kernel
theorem dJ6_bitCount_0f7a4_35 : decode cJ6_bitCount_0f7a4 35 = .ok (.iload_n 0, 1) := by decide +kernel
theorem dJ6_bitCount_0f7a4_36 : decode cJ6_bitCount_0f7a4 36 = .ok (.bipush 8, 2) := by decide +kernel
theorem dJ6_bitCount_0f7a4_38 : decode cJ6_bitCount_0f7a4 38 = .ok (.iushr, 1) := by decide +kernel
theorem dJ6_bitCount_0f7a4_39 : decode cJ6_bitCount_0f7a4 39 = .ok (.iadd, 1) := by decide +kernel
theorem dJ6_bitCount_0f7a4_40 : decode cJ6_bitCount_0f7a4 40 = .ok (.istore_n 0, 1) := by decide +kernel
theorem dJ6_bitCount_0f7a4_41 : decode cJ6_bitCount_0f7a4 41 = .ok (.iload_n 0, 1) := by decide +kernel
theorem dJ6_bitCount_0f7a4_42 : decode cJ6_bitCount_0f7a4 42 = .ok (.iload_n 0, 1) := by decide +kernel
theorem dJ6_bitCount_0f7a4_43 : decode cJ6_bitCount_0f7a4 43 = .ok (.bipush 16, 2) := by decide +kernel
theorem dJ6_bitCount_0f7a4_45 : decode cJ6_bitCount_0f7a4 45 = .ok (.iushr, 1) := by decide +kernel
theorem dJ6_bitCount_0f7a4_46 : decode cJ6_bitCount_0f7a4 46 = .ok (.iadd, 1) := by decide +kernel
theorem dJ6_bitCount_0f7a4_47 : decode cJ6_bitCount_0f7a4 47 = .ok (.istore_n 0, 1) := by decide +kernel
theorem dJ6_bitCount_0f7a4_48 : decode cJ6_bitCount_0f7a4 48 = .ok (.iload_n 0, 1) := by decide +kernel
theorem dJ6_bitCount_0f7a4_49 : decode cJ6_bitCount_0f7a4 49 = .ok (.bipush 63, 2) := by decide +kernel
theorem dJ6_bitCount_0f7a4_51 : decode cJ6_bitCount_0f7a4 51 = .ok (.iand, 1) := by decide +kernel
theorem dJ6_bitCount_0f7a4_52 : decode cJ6_bitCount_0f7a4 52 = .ok (.ireturn, 1) := by decide +kernel
theorem dJ9_floorMod_7cf53_0 : decode cJ9_floorMod_7cf53 0 = .ok (.iload_n 0, 1) := by decide +kernel
theorem dJ9_floorMod_7cf53_1 : decode cJ9_floorMod_7cf53 1 = .ok (.iload_n 1, 1) := by decide +kernel
theorem dJ9_floorMod_7cf53_2 : decode cJ9_floorMod_7cf53 2 = .ok (.irem, 1) := by decide +kernel
theorem dJ9_floorMod_7cf53_3 : decode cJ9_floorMod_7cf53 3 = .ok (.istore_n 2, 1) := by decide +kernel
theorem dJ9_floorMod_7cf53_4 : decode cJ9_floorMod_7cf53 4 = .ok (.iload_n 0, 1) := by decide +kernel
theorem dJ9_floorMod_7cf53_5 : decode cJ9_floorMod_7cf53 5 = .ok (.iload_n 1, 1) := by decide +kernel
theorem dJ9_floorMod_7cf53_6 : decode cJ9_floorMod_7cf53 6 = .ok (.ixor, 1) := by decide +kernel
theorem dJ9_floorMod_7cf53_7 : decode cJ9_floorMod_7cf53 7 = .ok (.ifCond .ge 11, 3) := by decide +kernel
theorem dJ9_floorMod_7cf53_10 : decode cJ9_floorMod_7cf53 10 = .ok (.iload_n 2, 1) := by decide +kernel
theorem dJ9_floorMod_7cf53_11 : decode cJ9_floorMod_7cf53 11 = .ok (.ifCond .eq 7, 3) := by decide +kernel
theorem dJ9_floorMod_7cf53_14 : decode cJ9_floorMod_7cf53 14 = .ok (.iload_n 2, 1) := by decide +kernel
theorem dJ9_floorMod_7cf53_15 : decode cJ9_floorMod_7cf53 15 = .ok (.iload_n 1, 1) := by decide +kernel
theorem dJ9_floorMod_7cf53_16 : decode cJ9_floorMod_7cf53 16 = .ok (.iadd, 1) := by decide +kernel
theorem dJ9_floorMod_7cf53_17 : decode cJ9_floorMod_7cf53 17 = .ok (.ireturn, 1) := by decide +kernel
theorem dJ9_floorMod_7cf53_18 : decode cJ9_floorMod_7cf53 18 = .ok (.iload_n 2, 1) := by decide +kernel
theorem dJ9_floorMod_7cf53_19 : decode cJ9_floorMod_7cf53 19 = .ok (.ireturn, 1) := by decide +kernel
theorem dJ9_max_7cf53_0 : decode cJ9_max_7cf53 0 = .ok (.iload_n 0, 1) := by decide +kernel
theorem dJ9_max_7cf53_1 : decode cJ9_max_7cf53 1 = .ok (.iload_n 1, 1) := by decide +kernel
theorem dJ9_max_7cf53_2 : decode cJ9_max_7cf53 2 = .ok (.if_icmp .lt 7, 3) := by decide +kernel
theorem dJ9_max_7cf53_5 : decode cJ9_max_7cf53 5 = .ok (.iload_n 0, 1) := by decide +kernel
theorem dJ9_max_7cf53_6 : decode cJ9_max_7cf53 6 = .ok (.goto 4, 3) := by decide +kernel
theorem dJ9_max_7cf53_9 : decode cJ9_max_7cf53 9 = .ok (.iload_n 1, 1) := by decide +kernel
theorem dJ9_max_7cf53_10 : decode cJ9_max_7cf53 10 = .ok (.ireturn, 1) := by decide +kernel
theorem dJ9_min_7cf53_0 : decode cJ9_min_7cf53 0 = .ok (.iload_n 0, 1) := by decide +kernel
theorem dJ9_min_7cf53_1 : decode cJ9_min_7cf53 1 = .ok (.iload_n 1, 1) := by decide +kernel
theorem dJ9_min_7cf53_2 : decode cJ9_min_7cf53 2 = .ok (.if_icmp .gt 7, 3) := by decide +kernel
theorem dJ9_min_7cf53_5 : decode cJ9_min_7cf53 5 = .ok (.iload_n 0, 1) := by decide +kernel
theorem dJ9_min_7cf53_6 : decode cJ9_min_7cf53 6 = .ok (.goto 4, 3) := by decide +kernel
theorem dJ9_min_7cf53_9 : decode cJ9_min_7cf53 9 = .ok (.iload_n 1, 1) := by decide +kernel
theorem dJ9_min_7cf53_10 : decode cJ9_min_7cf53 10 = .ok (.ireturn, 1) := by decide +kernel
theorem dJ0_length_8abf5_0 : decode cJ0_length_8abf5 0 = .ok (.aload_n 0, 1) := by decide +kernel
theorem dJ0_length_8abf5_1 : decode cJ0_length_8abf5 1 = .ok (.getfield 9, 3) := by decide +kernel
theorem dJ0_length_8abf5_4 : decode cJ0_length_8abf5 4 = .ok (.arraylength, 1) := by decide +kernel
theorem dJ0_length_8abf5_5 : decode cJ0_length_8abf5 5 = .ok (.aload_n 0, 1) := by decide +kernel
theorem dJ0_length_8abf5_6 : decode cJ0_length_8abf5 6 = .ok (.invokevirtual 335, 3) := by decide +kernel
theorem dJ0_length_8abf5_9 : decode cJ0_length_8abf5 9 = .ok (.ishr, 1) := by decide +kernel
theorem dJ0_length_8abf5_10 : decode cJ0_length_8abf5 10 = .ok (.ireturn, 1) := by decide +kernel
theorem dJ0_indexOf_0f7a4_0 : decode cJ0_indexOf_0f7a4 0 = .ok (.aload_n 0, 1) := by decide +kernel
theorem dJ0_indexOf_0f7a4_1 : decode cJ0_indexOf_0f7a4 1 = .ok (.iload_n 1, 1) := by decide +kernel
theorem dJ0_indexOf_0f7a4_2 : decode cJ0_indexOf_0f7a4 2 = .ok (.iconst 0, 1) := by decide +kernel
theorem dJ0_indexOf_0f7a4_3 : decode cJ0_indexOf_0f7a4 3 = .ok (.invokevirtual 633, 3) := by decide +kernel
theorem dJ0_indexOf_0f7a4_6 : decode cJ0_indexOf_0f7a4 6 = .ok (.ireturn, 1) := by decide +kernel
theorem dJ0_indexOf_7cf53_0 : decode cJ0_indexOf_7cf53 0 = .ok (.aload_n 0, 1) := by decide +kernel
theorem dJ0_indexOf_7cf53_1 : decode cJ0_indexOf_7cf53 1 = .ok (.invokevirtual 492, 3) := by decide +kernel
theorem dJ0_indexOf_7cf53_4 : decode cJ0_indexOf_7cf53 4 = .ok (.ifCond .eq 19, 3) := by decide +kernel
theorem dJ0_indexOf_7cf53_7 : decode cJ0_indexOf_7cf53 7 = .ok (.aload_n 0, 1) := by decide +kernel
theorem dJ0_indexOf_7cf53_8 : decode cJ0_indexOf_7cf53 8 = .ok (.getfield 9, 3) := by decide +kernel
theorem dJ0_indexOf_7cf53_11 : decode cJ0_indexOf_7cf53 11 = .ok (.iload_n 1, 1) := by decide +kernel
theorem dJ0_indexOf_7cf53_12 : decode cJ0_indexOf_7cf53 12 = .ok (.iload_n 2, 1) := by decide +kernel
theorem dJ0_indexOf_7cf53_13 : decode cJ0_indexOf_7cf53 13 = .ok (.aload_n 0, 1) := by decide +kernel
theorem dJ0_indexOf_7cf53_14 : decode cJ0_indexOf_7cf53 14 = .ok (.invokevirtual 505, 3) := by decide +kernel
theorem dJ0_indexOf_7cf53_17 : decode cJ0_indexOf_7cf53 17 = .ok (.invokestatic 637, 3) := by decide +kernel
theorem dJ0_indexOf_7cf53_20 : decode cJ0_indexOf_7cf53 20 = .ok (.goto 16, 3) := by decide +kernel
theorem dJ0_indexOf_7cf53_23 : decode cJ0_indexOf_7cf53 23 = .ok (.aload_n 0, 1) := by decide +kernel
theorem dJ0_indexOf_7cf53_24 : decode cJ0_indexOf_7cf53 24 = .ok (.getfield 9, 3) := by decide +kernel
theorem dJ0_indexOf_7cf53_27 : decode cJ0_indexOf_7cf53 27 = .ok (.iload_n 1, 1) := by decide +kernel
theorem dJ0_indexOf_7cf53_28 : decode cJ0_indexOf_7cf53 28 = .ok (.iload_n 2, 1) := by decide +kernel
theorem dJ0_indexOf_7cf53_29 : decode cJ0_indexOf_7cf53 29 = .ok (.aload_n 0, 1) := by decide +kernel
theorem dJ0_indexOf_7cf53_30 : decode cJ0_indexOf_7cf53 30 = .ok (.invokevirtual 505, 3) := by decide +kernel
theorem dJ0_indexOf_7cf53_33 : decode cJ0_indexOf_7cf53 33 = .ok (.invokestatic 640, 3) := by decide +kernel
theorem dJ0_indexOf_7cf53_36 : decode cJ0_indexOf_7cf53 36 = .ok (.ireturn, 1) := by decide +kernel
theorem dJ0_coder_7d493_0 : decode cJ0_coder_7d493 0 = .ok (.getstatic 38, 3) := by decide +kernel
theorem dJ0_coder_7d493_3 : decode cJ0_coder_7d493 3 = .ok (.ifCond .eq 10, 3) := by decide +kernel
theorem dJ0_coder_7d493_6 : decode cJ0_coder_7d493 6 = .ok (.aload_n 0, 1) := by decide +kernel
theorem dJ0_coder_7d493_7 : decode cJ0_coder_7d493 7 = .ok (.getfield 15, 3) := by decide +kernel
theorem dJ0_coder_7d493_10 : decode cJ0_coder_7d493 10 = .ok (.goto 4, 3) := by decide +kernel
theorem dJ0_coder_7d493_13 : decode cJ0_coder_7d493 13 = .ok (.iconst 1, 1) := by decide +kernel
theorem dJ0_coder_7d493_14 : decode cJ0_coder_7d493 14 = .ok (.ireturn, 1) := by decide +kernel
theorem dJ0_isLatin1_aae02_0 : decode cJ0_isLatin1_aae02 0 = .ok (.getstatic 38, 3) := by decide +kernel
theorem dJ0_isLatin1_aae02_3 : decode cJ0_isLatin1_aae02 3 = .ok (.ifCond .eq 14, 3) := by decide +kernel
theorem dJ0_isLatin1_aae02_6 : decode cJ0_isLatin1_aae02 6 = .ok (.aload_n 0, 1) := by decide +kernel
theorem dJ0_isLatin1_aae02_7 : decode cJ0_isLatin1_aae02 7 = .ok (.getfield 15, 3) := by decide +kernel
theorem dJ0_isLatin1_aae02_10 : decode cJ0_isLatin1_aae02 10 = .ok (.ifCond .ne 7, 3) := by decide +kernel
theorem dJ0_isLatin1_aae02_13 : decode cJ0_isLatin1_aae02 13 = .ok (.iconst 1, 1) := by decide +kernel
theorem dJ0_isLatin1_aae02_14 : decode cJ0_isLatin1_aae02 14 = .ok (.goto 4, 3) := by decide +kernel
theorem dJ0_isLatin1_aae02_17 : decode cJ0_isLatin1_aae02 17 = .ok (.iconst 0, 1) := by decide +kernel
theorem dJ0_isLatin1_aae02_18 : decode cJ0_isLatin1_aae02 18 = .ok (.ireturn, 1) := by decide +kernel
theorem dJ0_checkBoundsBeginEnd_23922_0 : decode cJ0_checkBoundsBeginEnd_23922 0 = .ok (.iload_n 0, 1) := by decide +kernel
theorem dJ0_checkBoundsBeginEnd_23922_1 : decode cJ0_checkBoundsBeginEnd_23922 1 = .ok (.iload_n 1, 1) := by decide +kernel
theorem dJ0_checkBoundsBeginEnd_23922_2 : decode cJ0_checkBoundsBeginEnd_23922 2 = .ok (.iload_n 2, 1) := by decide +kernel
theorem dJ0_checkBoundsBeginEnd_23922_3 : decode cJ0_checkBoundsBeginEnd_23922 3 = .ok (.getstatic 1053, 3) := by decide +kernel
theorem dJ0_checkBoundsBeginEnd_23922_6 : decode cJ0_checkBoundsBeginEnd_23922 6 = .ok (.invokestatic 1062, 3) := by decide +kernel
theorem dJ0_checkBoundsBeginEnd_23922_9 : decode cJ0_checkBoundsBeginEnd_23922 9 = .ok (.pop, 1) := by decide +kernel
theorem dJ0_checkBoundsBeginEnd_23922_10 : decode cJ0_checkBoundsBeginEnd_23922 10 = .ok (.return_, 1) := by decide +kernel
theorem dJ1_canEncode_9a6ad_0 : decode cJ1_canEncode_9a6ad 0 = .ok (.iload_n 0, 1) := by decide +kernel
theorem dJ1_canEncode_9a6ad_1 : decode cJ1_canEncode_9a6ad 1 = .ok (.ifCond .lt 14, 3) := by decide +kernel
theorem dJ1_canEncode_9a6ad_4 : decode cJ1_canEncode_9a6ad 4 = .ok (.iload_n 0, 1) := by decide +kernel
theorem dJ1_canEncode_9a6ad_5 : decode cJ1_canEncode_9a6ad 5 = .ok (.sipush 255, 3) := by decide +kernel
theorem dJ1_canEncode_9a6ad_8 : decode cJ1_canEncode_9a6ad 8 = .ok (.if_icmp .gt 7, 3) := by decide +kernel
theorem dJ1_canEncode_9a6ad_11 : decode cJ1_canEncode_9a6ad 11 = .ok (.iconst 1, 1) := by decide +kernel
theorem dJ1_canEncode_9a6ad_12 : decode cJ1_canEncode_9a6ad 12 = .ok (.goto 4, 3) := by decide +kernel
theorem dJ1_canEncode_9a6ad_15 : decode cJ1_canEncode_9a6ad 15 = .ok (.iconst 0, 1) := by decide +kernel
theorem dJ1_canEncode_9a6ad_16 : decode cJ1_canEncode_9a6ad 16 = .ok (.ireturn, 1) := by decide +kernel
theorem dJ1_indexOf_4cfef_0 : decode cJ1_indexOf_4cfef 0 = .ok (.iload_n 1, 1) := by decide +kernel
theorem dJ1_indexOf_4cfef_1 : decode cJ1_indexOf_4cfef 1 = .ok (.invokestatic 88, 3) := by decide +kernel
theorem dJ1_indexOf_4cfef_4 : decode cJ1_indexOf_4cfef 4 = .ok (.ifCond .ne 5, 3) := by decide +kernel
theorem dJ1_indexOf_4cfef_7 : decode cJ1_indexOf_4cfef 7 = .ok (.iconst (-1), 1) := by decide +kernel
theorem dJ1_indexOf_4cfef_8 : decode cJ1_indexOf_4cfef 8 = .ok (.ireturn, 1) := by decide +kernel
theorem dJ1_indexOf_4cfef_9 : decode cJ1_indexOf_4cfef 9 = .ok (.iload_n 2, 1) := by decide +kernel
theorem dJ1_indexOf_4cfef_10 : decode cJ1_indexOf_4cfef 10 = .ok (.iconst 0, 1) := by decide +kernel
theorem dJ1_indexOf_4cfef_11 : decode cJ1_indexOf_4cfef 11 = .ok (.invokestatic 92, 3) := by decide +kernel
theorem dJ1_indexOf_4cfef_14 : decode cJ1_indexOf_4cfef 14 = .ok (.istore_n 2, 1) := by decide +kernel
theorem dJ1_indexOf_4cfef_15 : decode cJ1_indexOf_4cfef 15 = .ok (.iload_n 3, 1) := by decide +kernel
theorem dJ1_indexOf_4cfef_16 : decode cJ1_indexOf_4cfef 16 = .ok (.aload_n 0, 1) := by decide +kernel
theorem dJ1_indexOf_4cfef_17 : decode cJ1_indexOf_4cfef 17 = .ok (.arraylength, 1) := by decide +kernel
theorem dJ1_indexOf_4cfef_18 : decode cJ1_indexOf_4cfef 18 = .ok (.invokestatic 38, 3) := by decide +kernel
theorem dJ1_indexOf_4cfef_21 : decode cJ1_indexOf_4cfef 21 = .ok (.istore_n 3, 1) := by decide +kernel
theorem dJ1_indexOf_4cfef_22 : decode cJ1_indexOf_4cfef 22 = .ok (.iload_n 2, 1) := by decide +kernel
theorem dJ1_indexOf_4cfef_23 : decode cJ1_indexOf_4cfef 23 = .ok (.iload_n 3, 1) := by decide +kernel
theorem dJ1_indexOf_4cfef_24 : decode cJ1_indexOf_4cfef 24 = .ok (.if_icmp .lt 5, 3) := by decide +kernel
theorem dJ1_indexOf_4cfef_27 : decode cJ1_indexOf_4cfef 27 = .ok (.iconst (-1), 1) := by decide +kernel
theorem dJ1_indexOf_4cfef_28 : decode cJ1_indexOf_4cfef 28 = .ok (.ireturn, 1) := by decide +kernel
theorem dJ1_indexOf_4cfef_29 : decode cJ1_indexOf_4cfef 29 = .ok (.aload_n 0, 1) := by decide +kernel
theorem dJ1_indexOf_4cfef_30 : decode cJ1_indexOf_4cfef 30 = .ok (.iload_n 1, 1) := by decide +kernel
theorem dJ1_indexOf_4cfef_31 : decode cJ1_indexOf_4cfef 31 = .ok (.iload_n 2, 1) := by decide +kernel
theorem dJ1_indexOf_4cfef_32 : decode cJ1_indexOf_4cfef 32 = .ok (.iload_n 3, 1) := by decide +kernel
theorem dJ1_indexOf_4cfef_33 : decode cJ1_indexOf_4cfef 33 = .ok (.invokestatic 95, 3) := by decide +kernel
theorem dJ1_indexOf_4cfef_36 : decode cJ1_indexOf_4cfef 36 = .ok (.ireturn, 1) := by decide +kernel
theorem dJ1_indexOfChar_4cfef_0 : decode cJ1_indexOfChar_4cfef 0 = .ok (.iload_n 1, 1) := by decide +kernel
theorem dJ1_indexOfChar_4cfef_1 : decode cJ1_indexOfChar_4cfef 1 = .ok (.i2b, 1) := by decide +kernel
theorem dJ1_indexOfChar_4cfef_2 : decode cJ1_indexOfChar_4cfef 2 = .ok (.istore 4, 2) := by decide +kernel
theorem dJ1_indexOfChar_4cfef_4 : decode cJ1_indexOfChar_4cfef 4 = .ok (.iload_n 2, 1) := by decide +kernel
theorem dJ1_indexOfChar_4cfef_5 : decode cJ1_indexOfChar_4cfef 5 = .ok (.istore 5, 2) := by decide +kernel
theorem dJ1_indexOfChar_4cfef_7 : decode cJ1_indexOfChar_4cfef 7 = .ok (.iload 5, 2) := by decide +kernel
theorem dJ1_indexOfChar_4cfef_9 : decode cJ1_indexOfChar_4cfef 9 = .ok (.iload_n 3, 1) := by decide +kernel
theorem dJ1_indexOfChar_4cfef_10 : decode cJ1_indexOfChar_4cfef 10 = .ok (.if_icmp .ge 21, 3) := by decide +kernel
theorem dJ1_indexOfChar_4cfef_13 : decode cJ1_indexOfChar_4cfef 13 = .ok (.aload_n 0, 1) := by decide +kernel
theorem dJ1_indexOfChar_4cfef_14 : decode cJ1_indexOfChar_4cfef 14 = .ok (.iload 5, 2) := by decide +kernel
theorem dJ1_indexOfChar_4cfef_16 : decode cJ1_indexOfChar_4cfef 16 = .ok (.baload, 1) := by decide +kernel
theorem dJ1_indexOfChar_4cfef_17 : decode cJ1_indexOfChar_4cfef 17 = .ok (.iload 4, 2) := by decide +kernel
theorem dJ1_indexOfChar_4cfef_19 : decode cJ1_indexOfChar_4cfef 19 = .ok (.if_icmp .ne 6, 3) := by decide +kernel
theorem dJ1_indexOfChar_4cfef_22 : decode cJ1_indexOfChar_4cfef 22 = .ok (.iload 5, 2) := by decide +kernel
theorem dJ1_indexOfChar_4cfef_24 : decode cJ1_indexOfChar_4cfef 24 = .ok (.ireturn, 1) := by decide +kernel
theorem dJ1_indexOfChar_4cfef_25 : decode cJ1_indexOfChar_4cfef 25 = .ok (.iinc 5 1, 3) := by decide +kernel
theorem dJ1_indexOfChar_4cfef_28 : decode cJ1_indexOfChar_4cfef 28 = .ok (.goto (-21), 3) := by decide +kernel
theorem dJ1_indexOfChar_4cfef_31 : decode cJ1_indexOfChar_4cfef 31 = .ok (.iconst (-1), 1) := by decide +kernel
theorem dJ1_indexOfChar_4cfef_32 : decode cJ1_indexOfChar_4cfef 32 = .ok (.ireturn, 1) := by decide +kernel
theorem dJ2_getChar_3b067_0 : decode cJ2_getChar_3b067 0 = .ok (.getstatic 44, 3) := by decide +kernel
theorem dJ2_getChar_3b067_3 : decode cJ2_getChar_3b067 3 = .ok (.ifCond .ne 25, 3) := by decide +kernel
theorem dJ2_getChar_3b067_6 : decode cJ2_getChar_3b067 6 = .ok (.iload_n 1, 1) := by decide +kernel
theorem dJ2_getChar_3b067_7 : decode cJ2_getChar_3b067 7 = .ok (.ifCond .lt 11, 3) := by decide +kernel
theorem dJ2_getChar_3b067_10 : decode cJ2_getChar_3b067 10 = .ok (.iload_n 1, 1) := by decide +kernel
theorem dJ2_getChar_3b067_11 : decode cJ2_getChar_3b067 11 = .ok (.aload_n 0, 1) := by decide +kernel
theorem dJ2_getChar_3b067_12 : decode cJ2_getChar_3b067 12 = .ok (.invokestatic 48, 3) := by decide +kernel
theorem dJ2_getChar_3b067_15 : decode cJ2_getChar_3b067 15 = .ok (.if_icmp .lt 13, 3) := by decide +kernel
theorem dJ2_getChar_3b067_18 : decode cJ2_getChar_3b067 18 = .ok (.new 52, 3) := by decide +kernel
theorem dJ2_getChar_3b067_21 : decode cJ2_getChar_3b067 21 = .ok (.dup, 1) := by decide +kernel
theorem dJ2_getChar_3b067_22 : decode cJ2_getChar_3b067 22 = .ok (.ldc 54, 2) := by decide +kernel
theorem dJ2_getChar_3b067_24 : decode cJ2_getChar_3b067 24 = .ok (.invokespecial 56, 3) := by decide +kernel
theorem dJ2_getChar_3b067_27 : decode cJ2_getChar_3b067 27 = .ok (.athrow, 1) := by decide +kernel
theorem dJ2_getChar_3b067_28 : decode cJ2_getChar_3b067 28 = .ok (.iload_n 1, 1) := by decide +kernel
theorem dJ2_getChar_3b067_29 : decode cJ2_getChar_3b067 29 = .ok (.iconst 1, 1) := by decide +kernel
theorem dJ2_getChar_3b067_30 : decode cJ2_getChar_3b067 30 = .ok (.ishl, 1) := by decide +kernel
theorem dJ2_getChar_3b067_31 : decode cJ2_getChar_3b067 31 = .ok (.istore_n 1, 1) := by decide +kernel
theorem dJ2_getChar_3b067_32 : decode cJ2_getChar_3b067 32 = .ok (.aload_n 0, 1) := by decide +kernel
theorem dJ2_getChar_3b067_33 : decode cJ2_getChar_3b067 33 = .ok (.iload_n 1, 1) := by decide +kernel
theorem dJ2_getChar_3b067_34 : decode cJ2_getChar_3b067 34 = .ok (.iinc 1 1, 3) := by decide +kernel
theorem dJ2_getChar_3b067_37 : decode cJ2_getChar_3b067 37 = .ok (.baload, 1) := by decide +kernel
theorem dJ2_getChar_3b067_38 : decode cJ2_getChar_3b067 38 = .ok (.sipush 255, 3) := by decide +kernel
theorem dJ2_getChar_3b067_41 : decode cJ2_getChar_3b067 41 = .ok (.iand, 1) := by decide +kernel
theorem dJ2_getChar_3b067_42 : decode cJ2_getChar_3b067 42 = .ok (.getstatic 59, 3) := by decide +kernel
theorem dJ2_getChar_3b067_45 : decode cJ2_getChar_3b067 45 = .ok (.ishl, 1) := by decide +kernel
theorem dJ2_getChar_3b067_46 : decode cJ2_getChar_3b067 46 = .ok (.aload_n 0, 1) := by decide +kernel
theorem dJ2_getChar_3b067_47 : decode cJ2_getChar_3b067 47 = .ok (.iload_n 1, 1) := by decide +kernel
theorem dJ2_getChar_3b067_48 : decode cJ2_getChar_3b067 48 = .ok (.baload, 1) := by decide +kernel
theorem dJ2_getChar_3b067_49 : decode cJ2_getChar_3b067 49 = .ok (.sipush 255, 3) := by decide +kernel
theorem dJ2_getChar_3b067_52 : decode cJ2_getChar_3b067 52 = .ok (.iand, 1) := by decide +kernel
theorem dJ2_getChar_3b067_53 : decode cJ2_getChar_3b067 53 = .ok (.getstatic 63, 3) := by decide +kernel
theorem dJ2_getChar_3b067_56 : decode cJ2_getChar_3b067 56 = .ok (.ishl, 1) := by decide +kernel
theorem dJ2_getChar_3b067_57 : decode cJ2_getChar_3b067 57 = .ok (.ior, 1) := by decide +kernel
theorem dJ2_getChar_3b067_58 : decode cJ2_getChar_3b067 58 = .ok (.i2c, 1) := by decide +kernel
theorem dJ2_getChar_3b067_59 : decode cJ2_getChar_3b067 59 = .ok (.ireturn, 1) := by decide +kernel
theorem dJ2_length_9d52b_0 : decode cJ2_length_9d52b 0 = .ok (.aload_n 0, 1) := by decide +kernel
theorem dJ2_length_9d52b_1 : decode cJ2_length_9d52b 1 = .ok (.arraylength, 1) := by decide +kernel
theorem dJ2_length_9d52b_2 : decode cJ2_length_9d52b 2 = .ok (.iconst 1, 1) := by decide +kernel
theorem dJ2_length_9d52b_3 : decode cJ2_length_9d52b 3 = .ok (.ishr, 1) := by decide +kernel
theorem dJ2_length_9d52b_4 : decode cJ2_length_9d52b 4 = .ok (.ireturn, 1) := by decide +kernel
theorem dJ2_indexOf_4cfef_0 : decode cJ2_indexOf_4cfef 0 = .ok (.iload_n 2, 1) := by decide +kernel
theorem dJ2_indexOf_4cfef_1 : decode cJ2_indexOf_4cfef 1 = .ok (.iconst 0, 1) := by decide +kernel
theorem dJ2_indexOf_4cfef_2 : decode cJ2_indexOf_4cfef 2 = .ok (.invokestatic 224, 3) := by decide +kernel
theorem dJ2_indexOf_4cfef_5 : decode cJ2_indexOf_4cfef 5 = .ok (.istore_n 2, 1) := by decide +kernel
theorem dJ2_indexOf_4cfef_6 : decode cJ2_indexOf_4cfef 6 = .ok (.iload_n 3, 1) := by decide +kernel
theorem dJ2_indexOf_4cfef_7 : decode cJ2_indexOf_4cfef 7 = .ok (.aload_n 0, 1) := by decide +kernel
theorem dJ2_indexOf_4cfef_8 : decode cJ2_indexOf_4cfef 8 = .ok (.arraylength, 1) := by decide +kernel
theorem dJ2_indexOf_4cfef_9 : decode cJ2_indexOf_4cfef 9 = .ok (.iconst 1, 1) := by decide +kernel
theorem dJ2_indexOf_4cfef_10 : decode cJ2_indexOf_4cfef 10 = .ok (.ishr, 1) := by decide +kernel
theorem dJ2_indexOf_4cfef_11 : decode cJ2_indexOf_4cfef 11 = .ok (.invokestatic 183, 3) := by decide +kernel
theorem dJ2_indexOf_4cfef_14 : decode cJ2_indexOf_4cfef 14 = .ok (.istore_n 3, 1) := by decide +kernel
theorem dJ2_indexOf_4cfef_15 : decode cJ2_indexOf_4cfef 15 = .ok (.iload_n 2, 1) := by decide +kernel
theorem dJ2_indexOf_4cfef_16 : decode cJ2_indexOf_4cfef 16 = .ok (.iload_n 3, 1) := by decide +kernel
theorem dJ2_indexOf_4cfef_17 : decode cJ2_indexOf_4cfef 17 = .ok (.if_icmp .lt 5, 3) := by decide +kernel
theorem dJ2_indexOf_4cfef_20 : decode cJ2_indexOf_4cfef 20 = .ok (.iconst (-1), 1) := by decide +kernel
theorem dJ2_indexOf_4cfef_21 : decode cJ2_indexOf_4cfef 21 = .ok (.ireturn, 1) := by decide +kernel
theorem dJ2_indexOf_4cfef_22 : decode cJ2_indexOf_4cfef 22 = .ok (.iload_n 1, 1) := by decide +kernel
theorem dJ2_indexOf_4cfef_23 : decode cJ2_indexOf_4cfef 23 = .ok (.ldc 227, 2) := by decide +kernel
theorem dJ2_indexOf_4cfef_25 : decode cJ2_indexOf_4cfef 25 = .ok (.if_icmp .ge 11, 3) := by decide +kernel
theorem dJ2_indexOf_4cfef_28 : decode cJ2_indexOf_4cfef 28 = .ok (.aload_n 0, 1) := by decide +kernel
theorem dJ2_indexOf_4cfef_29 : decode cJ2_indexOf_4cfef 29 = .ok (.iload_n 1, 1) := by decide +kernel
theorem dJ2_indexOf_4cfef_30 : decode cJ2_indexOf_4cfef 30 = .ok (.iload_n 2, 1) := by decide +kernel
theorem dJ2_indexOf_4cfef_31 : decode cJ2_indexOf_4cfef 31 = .ok (.iload_n 3, 1) := by decide +kernel
theorem dJ2_indexOf_4cfef_32 : decode cJ2_indexOf_4cfef 32 = .ok (.invokestatic 228, 3) := by decide +kernel
theorem dJ2_indexOf_4cfef_35 : decode cJ2_indexOf_4cfef 35 = .ok (.ireturn, 1) := by decide +kernel
theorem dJ2_indexOf_4cfef_36 : decode cJ2_indexOf_4cfef 36 = .ok (.aload_n 0, 1) := by decide +kernel
theorem dJ2_indexOf_4cfef_37 : decode cJ2_indexOf_4cfef 37 = .ok (.iload_n 1, 1) := by decide +kernel
theorem dJ2_indexOf_4cfef_38 : decode cJ2_indexOf_4cfef 38 = .ok (.iload_n 2, 1) := by decide +kernel
theorem dJ2_indexOf_4cfef_39 : decode cJ2_indexOf_4cfef 39 = .ok (.iload_n 3, 1) := by decide +kernel
theorem dJ2_indexOf_4cfef_40 : decode cJ2_indexOf_4cfef 40 = .ok (.invokestatic 232, 3) := by decide +kernel
theorem dJ2_indexOf_4cfef_43 : decode cJ2_indexOf_4cfef 43 = .ok (.ireturn, 1) := by decide +kernel
theorem dJ2_indexOfChar_4cfef_0 : decode cJ2_indexOfChar_4cfef 0 = .ok (.iload_n 2, 1) := by decide +kernel
theorem dJ2_indexOfChar_4cfef_1 : decode cJ2_indexOfChar_4cfef 1 = .ok (.iload_n 3, 1) := by decide +kernel
theorem dJ2_indexOfChar_4cfef_2 : decode cJ2_indexOfChar_4cfef 2 = .ok (.aload_n 0, 1) := by decide +kernel
theorem dJ2_indexOfChar_4cfef_3 : decode cJ2_indexOfChar_4cfef 3 = .ok (.invokestatic 96, 3) := by decide +kernel
theorem dJ2_indexOfChar_4cfef_6 : decode cJ2_indexOfChar_4cfef 6 = .ok (.aload_n 0, 1) := by decide +kernel
theorem dJ2_indexOfChar_4cfef_7 : decode cJ2_indexOfChar_4cfef 7 = .ok (.iload_n 1, 1) := by decide +kernel
theorem dJ2_indexOfChar_4cfef_8 : decode cJ2_indexOfChar_4cfef 8 = .ok (.iload_n 2, 1) := by decide +kernel
theorem dJ2_indexOfChar_4cfef_9 : decode cJ2_indexOfChar_4cfef 9 = .ok (.iload_n 3, 1) := by decide +kernel
theorem dJ2_indexOfChar_4cfef_10 : decode cJ2_indexOfChar_4cfef 10 = .ok (.invokestatic 244, 3) := by decide +kernel
theorem dJ2_indexOfChar_4cfef_13 : decode cJ2_indexOfChar_4cfef 13 = .ok (.ireturn, 1) := by decide +kernel
theorem dJ2_indexOfCharUnsafe_4cfef_0 : decode cJ2_indexOfCharUnsafe_4cfef 0 = .ok (.iload_n 2, 1) := by decide +kernel
theorem dJ2_indexOfCharUnsafe_4cfef_1 : decode cJ2_indexOfCharUnsafe_4cfef 1 = .ok (.istore 4, 2) := by decide +kernel
theorem dJ2_indexOfCharUnsafe_4cfef_3 : decode cJ2_indexOfCharUnsafe_4cfef 3 = .ok (.iload 4, 2) := by decide +kernel
theorem dJ2_indexOfCharUnsafe_4cfef_5 : decode cJ2_indexOfCharUnsafe_4cfef 5 = .ok (.iload_n 3, 1) := by decide +kernel
theorem dJ2_indexOfCharUnsafe_4cfef_6 : decode cJ2_indexOfCharUnsafe_4cfef 6 = .ok (.if_icmp .ge 22, 3) := by decide +kernel
theorem dJ2_indexOfCharUnsafe_4cfef_9 : decode cJ2_indexOfCharUnsafe_4cfef 9 = .ok (.aload_n 0, 1) := by decide +kernel
theorem dJ2_indexOfCharUnsafe_4cfef_10 : decode cJ2_indexOfCharUnsafe_4cfef 10 = .ok (.iload 4, 2) := by decide +kernel
theorem dJ2_indexOfCharUnsafe_4cfef_12 : decode cJ2_indexOfCharUnsafe_4cfef 12 = .ok (.invokestatic 71, 3) := by decide +kernel
theorem dJ2_indexOfCharUnsafe_4cfef_15 : decode cJ2_indexOfCharUnsafe_4cfef 15 = .ok (.iload_n 1, 1) := by decide +kernel
theorem dJ2_indexOfCharUnsafe_4cfef_16 : decode cJ2_indexOfCharUnsafe_4cfef 16 = .ok (.if_icmp .ne 6, 3) := by decide +kernel
theorem dJ2_indexOfCharUnsafe_4cfef_19 : decode cJ2_indexOfCharUnsafe_4cfef 19 = .ok (.iload 4, 2) := by decide +kernel
theorem dJ2_indexOfCharUnsafe_4cfef_21 : decode cJ2_indexOfCharUnsafe_4cfef 21 = .ok (.ireturn, 1) := by decide +kernel
theorem dJ2_indexOfCharUnsafe_4cfef_22 : decode cJ2_indexOfCharUnsafe_4cfef 22 = .ok (.iinc 4 1, 3) := by decide +kernel
theorem dJ2_indexOfCharUnsafe_4cfef_25 : decode cJ2_indexOfCharUnsafe_4cfef 25 = .ok (.goto (-22), 3) := by decide +kernel
theorem dJ2_indexOfCharUnsafe_4cfef_28 : decode cJ2_indexOfCharUnsafe_4cfef 28 = .ok (.iconst (-1), 1) := by decide +kernel
theorem dJ2_indexOfCharUnsafe_4cfef_29 : decode cJ2_indexOfCharUnsafe_4cfef 29 = .ok (.ireturn, 1) := by decide +kernel
theorem dJ2_indexOfSupplementary_4cfef_0 : decode cJ2_indexOfSupplementary_4cfef 0 = .ok (.iload_n 1, 1) := by decide +kernel
theorem dJ2_indexOfSupplementary_4cfef_1 : decode cJ2_indexOfSupplementary_4cfef 1 = .ok (.invokestatic 164, 3) := by decide +kernel
theorem dJ2_indexOfSupplementary_4cfef_4 : decode cJ2_indexOfSupplementary_4cfef 4 = .ok (.ifCond .eq 65, 3) := by decide +kernel
theorem dJ2_indexOfSupplementary_4cfef_7 : decode cJ2_indexOfSupplementary_4cfef 7 = .ok (.iload_n 1, 1) := by decide +kernel
theorem dJ2_indexOfSupplementary_4cfef_8 : decode cJ2_indexOfSupplementary_4cfef 8 = .ok (.invokestatic 157, 3) := by decide +kernel
theorem dJ2_indexOfSupplementary_4cfef_11 : decode cJ2_indexOfSupplementary_4cfef 11 = .ok (.istore 4, 2) := by decide +kernel
theorem dJ2_indexOfSupplementary_4cfef_13 : decode cJ2_indexOfSupplementary_4cfef 13 = .ok (.iload_n 1, 1) := by decide +kernel
theorem dJ2_indexOfSupplementary_4cfef_14 : decode cJ2_indexOfSupplementary_4cfef 14 = .ok (.invokestatic 161, 3) := by decide +kernel
theorem dJ2_indexOfSupplementary_4cfef_17 : decode cJ2_indexOfSupplementary_4cfef 17 = .ok (.istore 5, 2) := by decide +kernel
theorem dJ2_indexOfSupplementary_4cfef_19 : decode cJ2_indexOfSupplementary_4cfef 19 = .ok (.iload_n 2, 1) := by decide +kernel
theorem dJ2_indexOfSupplementary_4cfef_20 : decode cJ2_indexOfSupplementary_4cfef 20 = .ok (.iload_n 3, 1) := by decide +kernel
theorem dJ2_indexOfSupplementary_4cfef_21 : decode cJ2_indexOfSupplementary_4cfef 21 = .ok (.aload_n 0, 1) := by decide +kernel
theorem dJ2_indexOfSupplementary_4cfef_22 : decode cJ2_indexOfSupplementary_4cfef 22 = .ok (.invokestatic 96, 3) := by decide +kernel
theorem dJ2_indexOfSupplementary_4cfef_25 : decode cJ2_indexOfSupplementary_4cfef 25 = .ok (.iload_n 2, 1) := by decide +kernel
theorem dJ2_indexOfSupplementary_4cfef_26 : decode cJ2_indexOfSupplementary_4cfef 26 = .ok (.istore 6, 2) := by decide +kernel
theorem dJ2_indexOfSupplementary_4cfef_28 : decode cJ2_indexOfSupplementary_4cfef 28 = .ok (.iload 6, 2) := by decide +kernel
theorem dJ2_indexOfSupplementary_4cfef_30 : decode cJ2_indexOfSupplementary_4cfef 30 = .ok (.iload_n 3, 1) := by decide +kernel
theorem dJ2_indexOfSupplementary_4cfef_31 : decode cJ2_indexOfSupplementary_4cfef 31 = .ok (.iconst 1, 1) := by decide +kernel
theorem dJ2_indexOfSupplementary_4cfef_32 : decode cJ2_indexOfSupplementary_4cfef 32 = .ok (.isub, 1) := by decide +kernel
theorem dJ2_indexOfSupplementary_4cfef_33 : decode cJ2_indexOfSupplementary_4cfef 33 = .ok (.if_icmp .ge 36, 3) := by decide +kernel
theorem dJ2_indexOfSupplementary_4cfef_36 : decode cJ2_indexOfSupplementary_4cfef 36 = .ok (.aload_n 0, 1) := by decide +kernel
theorem dJ2_indexOfSupplementary_4cfef_37 : decode cJ2_indexOfSupplementary_4cfef 37 = .ok (.iload 6, 2) := by decide +kernel
theorem dJ2_indexOfSupplementary_4cfef_39 : decode cJ2_indexOfSupplementary_4cfef 39 = .ok (.invokestatic 71, 3) := by decide +kernel
theorem dJ2_indexOfSupplementary_4cfef_42 : decode cJ2_indexOfSupplementary_4cfef 42 = .ok (.iload 4, 2) := by decide +kernel
theorem dJ2_indexOfSupplementary_4cfef_44 : decode cJ2_indexOfSupplementary_4cfef 44 = .ok (.if_icmp .ne 19, 3) := by decide +kernel
theorem dJ2_indexOfSupplementary_4cfef_47 : decode cJ2_indexOfSupplementary_4cfef 47 = .ok (.aload_n 0, 1) := by decide +kernel
theorem dJ2_indexOfSupplementary_4cfef_48 : decode cJ2_indexOfSupplementary_4cfef 48 = .ok (.iload 6, 2) := by decide +kernel
theorem dJ2_indexOfSupplementary_4cfef_50 : decode cJ2_indexOfSupplementary_4cfef 50 = .ok (.iconst 1, 1) := by decide +kernel
theorem dJ2_indexOfSupplementary_4cfef_51 : decode cJ2_indexOfSupplementary_4cfef 51 = .ok (.iadd, 1) := by decide +kernel
theorem dJ2_indexOfSupplementary_4cfef_52 : decode cJ2_indexOfSupplementary_4cfef 52 = .ok (.invokestatic 71, 3) := by decide +kernel
theorem dJ2_indexOfSupplementary_4cfef_55 : decode cJ2_indexOfSupplementary_4cfef 55 = .ok (.iload 5, 2) := by decide +kernel
theorem dJ2_indexOfSupplementary_4cfef_57 : decode cJ2_indexOfSupplementary_4cfef 57 = .ok (.if_icmp .ne 6, 3) := by decide +kernel
theorem dJ2_indexOfSupplementary_4cfef_60 : decode cJ2_indexOfSupplementary_4cfef 60 = .ok (.iload 6, 2) := by decide +kernel
theorem dJ2_indexOfSupplementary_4cfef_62 : decode cJ2_indexOfSupplementary_4cfef 62 = .ok (.ireturn, 1) := by decide +kernel
theorem dJ2_indexOfSupplementary_4cfef_63 : decode cJ2_indexOfSupplementary_4cfef 63 = .ok (.iinc 6 1, 3) := by decide +kernel
theorem dJ2_indexOfSupplementary_4cfef_66 : decode cJ2_indexOfSupplementary_4cfef 66 = .ok (.goto (-38), 3) := by decide +kernel
theorem dJ2_indexOfSupplementary_4cfef_69 : decode cJ2_indexOfSupplementary_4cfef 69 = .ok (.iconst (-1), 1) := by decide +kernel
theorem dJ2_indexOfSupplementary_4cfef_70 : decode cJ2_indexOfSupplementary_4cfef 70 = .ok (.ireturn, 1) := by decide +kernel
theorem dJ2_checkBoundsBeginEnd_d044e_0 : decode cJ2_checkBoundsBeginEnd_d044e 0 = .ok (.iload_n 0, 1) := by decide +kernel
theorem dJ2_checkBoundsBeginEnd_d044e_1 : decode cJ2_checkBoundsBeginEnd_d044e 1 = .ok (.iload_n 1, 1) := by decide +kernel
theorem dJ2_checkBoundsBeginEnd_d044e_2 : decode cJ2_checkBoundsBeginEnd_d044e 2 = .ok (.aload_n 2, 1) := by decide +kernel
theorem dJ2_checkBoundsBeginEnd_d044e_3 : decode cJ2_checkBoundsBeginEnd_d044e 3 = .ok (.invokestatic 48, 3) := by decide +kernel
theorem dJ2_checkBoundsBeginEnd_d044e_6 : decode cJ2_checkBoundsBeginEnd_d044e 6 = .ok (.invokestatic 241, 3) := by decide +kernel
theorem dJ2_checkBoundsBeginEnd_d044e_9 : decode cJ2_checkBoundsBeginEnd_d044e 9 = .ok (.return_, 1) := by decide +kernel
theorem dJ3_checkFromToIndex_8c36e_0 : decode cJ3_checkFromToIndex_8c36e 0 = .ok (.iload_n 0, 1) := by decide +kernel
theorem dJ3_checkFromToIndex_8c36e_1 : decode cJ3_checkFromToIndex_8c36e 1 = .ok (.ifCond .lt 13, 3) := by decide +kernel
theorem dJ3_checkFromToIndex_8c36e_4 : decode cJ3_checkFromToIndex_8c36e 4 = .ok (.iload_n 0, 1) := by decide +kernel
theorem dJ3_checkFromToIndex_8c36e_5 : decode cJ3_checkFromToIndex_8c36e 5 = .ok (.iload_n 1, 1) := by decide +kernel
theorem dJ3_checkFromToIndex_8c36e_6 : decode cJ3_checkFromToIndex_8c36e 6 = .ok (.if_icmp .gt 8, 3) := by decide +kernel
theorem dJ3_checkFromToIndex_8c36e_9 : decode cJ3_checkFromToIndex_8c36e 9 = .ok (.iload_n 1, 1) := by decide +kernel
theorem dJ3_checkFromToIndex_8c36e_10 : decode cJ3_checkFromToIndex_8c36e 10 = .ok (.iload_n 2, 1) := by decide +kernel
theorem dJ3_checkFromToIndex_8c36e_11 : decode cJ3_checkFromToIndex_8c36e 11 = .ok (.if_icmp .le 11, 3) := by decide +kernel
theorem dJ3_checkFromToIndex_8c36e_14 : decode cJ3_checkFromToIndex_8c36e 14 = .ok (.aload_n 3, 1) := by decide +kernel
theorem dJ3_checkFromToIndex_8c36e_15 : decode cJ3_checkFromToIndex_8c36e 15 = .ok (.iload_n 0, 1) := by decide +kernel
theorem dJ3_checkFromToIndex_8c36e_16 : decode cJ3_checkFromToIndex_8c36e 16 = .ok (.iload_n 1, 1) := by decide +kernel
theorem dJ3_checkFromToIndex_8c36e_17 : decode cJ3_checkFromToIndex_8c36e 17 = .ok (.iload_n 2, 1) := by decide +kernel
theorem dJ3_checkFromToIndex_8c36e_18 : decode cJ3_checkFromToIndex_8c36e 18 = .ok (.invokestatic 99, 3) := by decide +kernel
theorem dJ3_checkFromToIndex_8c36e_21 : decode cJ3_checkFromToIndex_8c36e 21 = .ok (.athrow, 1) := by decide +kernel
theorem dJ3_checkFromToIndex_8c36e_22 : decode cJ3_checkFromToIndex_8c36e 22 = .ok (.iload_n 0, 1) := by decide +kernel
theorem dJ3_checkFromToIndex_8c36e_23 : decode cJ3_checkFromToIndex_8c36e 23 = .ok (.ireturn, 1) := by decide +kernel
theorem dL_law_0 : decode cL_law 0 = .ok (.new 7, 3) := by decide +kernel
theorem dL_law_3 : decode cL_law 3 = .ok (.dup, 1) := by decide +kernel
theorem dL_law_4 : decode cL_law 4 = .ok (.invokespecial 9, 3) := by decide +kernel
theorem dL_law_7 : decode cL_law 7 = .ok (.astore_n 1, 1) := by decide +kernel
theorem dL_law_8 : decode cL_law 8 = .ok (.new 10, 3) := by decide +kernel
theorem dL_law_11 : decode cL_law 11 = .ok (.dup, 1) := by decide +kernel
theorem dL_law_12 : decode cL_law 12 = .ok (.invokespecial 12, 3) := by decide +kernel
theorem dL_law_15 : decode cL_law 15 = .ok (.astore_n 2, 1) := by decide +kernel
theorem dL_law_16 : decode cL_law 16 = .ok (.iconst 0, 1) := by decide +kernel
theorem dL_law_17 : decode cL_law 17 = .ok (.istore_n 3, 1) := by decide +kernel
theorem dL_law_18 : decode cL_law 18 = .ok (.iload_n 3, 1) := by decide +kernel
theorem dL_law_19 : decode cL_law 19 = .ok (.aload_n 0, 1) := by decide +kernel
theorem dL_law_20 : decode cL_law 20 = .ok (.arraylength, 1) := by decide +kernel
theorem dL_law_21 : decode cL_law 21 = .ok (.bipush 6, 2) := by decide +kernel
theorem dL_law_23 : decode cL_law 23 = .ok (.isub, 1) := by decide +kernel
theorem dL_law_24 : decode cL_law 24 = .ok (.if_icmp .gt 1440, 3) := by decide +kernel
theorem dL_law_27 : decode cL_law 27 = .ok (.aload_n 0, 1) := by decide +kernel
theorem dL_law_28 : decode cL_law 28 = .ok (.iload_n 3, 1) := by decide +kernel
theorem dL_law_29 : decode cL_law 29 = .ok (.iaload, 1) := by decide +kernel
theorem dL_law_30 : decode cL_law 30 = .ok (.bipush 63, 2) := by decide +kernel
theorem dL_law_32 : decode cL_law 32 = .ok (.iand, 1) := by decide +kernel
theorem dL_law_33 : decode cL_law 33 = .ok (.tableswitch 1425 0 39 #[175, 208, 241, 274, 307, 340, 373, 396, 429, 462, 505, 538, 601, 624, 647, 700, 723, 746, 769, 792, 825, 858, 901, 934, 957, 980, 1013, 1056, 1099, 1122, 1165, 1208, 1271, 1294, 1317, 1330, 1343, 1366, 1379, 1402], 175) := by decide +kernel
theorem dL_law_208 : decode cL_law 208 = .ok (.aload_n 1, 1) := by decide +kernel
theorem dL_law_209 : decode cL_law 209 = .ok (.aload_n 0, 1) := by decide +kernel
theorem dL_law_210 : decode cL_law 210 = .ok (.iload_n 3, 1) := by decide +kernel
theorem dL_law_211 : decode cL_law 211 = .ok (.iconst 1, 1) := by decide +kernel
theorem dL_law_212 : decode cL_law 212 = .ok (.iadd, 1) := by decide +kernel
theorem dL_law_213 : decode cL_law 213 = .ok (.iaload, 1) := by decide +kernel
theorem dL_law_214 : decode cL_law 214 = .ok (.aload_n 0, 1) := by decide +kernel
theorem dL_law_215 : decode cL_law 215 = .ok (.iload_n 3, 1) := by decide +kernel
theorem dL_law_216 : decode cL_law 216 = .ok (.iconst 2, 1) := by decide +kernel
theorem dL_law_217 : decode cL_law 217 = .ok (.iadd, 1) := by decide +kernel
theorem dL_law_218 : decode cL_law 218 = .ok (.iaload, 1) := by decide +kernel
theorem dL_law_219 : decode cL_law 219 = .ok (.invokevirtual 13, 3) := by decide +kernel
theorem dL_law_222 : decode cL_law 222 = .ok (.aload_n 2, 1) := by decide +kernel
theorem dL_law_223 : decode cL_law 223 = .ok (.aload_n 0, 1) := by decide +kernel
theorem dL_law_224 : decode cL_law 224 = .ok (.iload_n 3, 1) := by decide +kernel
theorem dL_law_225 : decode cL_law 225 = .ok (.iconst 1, 1) := by decide +kernel
theorem dL_law_226 : decode cL_law 226 = .ok (.iadd, 1) := by decide +kernel
theorem dL_law_227 : decode cL_law 227 = .ok (.iaload, 1) := by decide +kernel
theorem dL_law_228 : decode cL_law 228 = .ok (.aload_n 0, 1) := by decide +kernel
theorem dL_law_229 : decode cL_law 229 = .ok (.iload_n 3, 1) := by decide +kernel
theorem dL_law_230 : decode cL_law 230 = .ok (.iconst 2, 1) := by decide +kernel
theorem dL_law_231 : decode cL_law 231 = .ok (.iadd, 1) := by decide +kernel
theorem dL_law_232 : decode cL_law 232 = .ok (.iaload, 1) := by decide +kernel
theorem dL_law_233 : decode cL_law 233 = .ok (.invokevirtual 17, 3) := by decide +kernel
theorem dL_law_236 : decode cL_law 236 = .ok (.if_icmp .eq 1222, 3) := by decide +kernel
theorem dL_law_239 : decode cL_law 239 = .ok (.iconst 0, 1) := by decide +kernel
theorem dL_law_240 : decode cL_law 240 = .ok (.ireturn, 1) := by decide +kernel
theorem dL_law_241 : decode cL_law 241 = .ok (.aload_n 1, 1) := by decide +kernel
theorem dL_law_242 : decode cL_law 242 = .ok (.aload_n 0, 1) := by decide +kernel
theorem dL_law_243 : decode cL_law 243 = .ok (.iload_n 3, 1) := by decide +kernel
theorem dL_law_244 : decode cL_law 244 = .ok (.iconst 1, 1) := by decide +kernel
theorem dL_law_245 : decode cL_law 245 = .ok (.iadd, 1) := by decide +kernel
theorem dL_law_246 : decode cL_law 246 = .ok (.iaload, 1) := by decide +kernel
theorem dL_law_247 : decode cL_law 247 = .ok (.aload_n 0, 1) := by decide +kernel
theorem dL_law_248 : decode cL_law 248 = .ok (.iload_n 3, 1) := by decide +kernel
theorem dL_law_249 : decode cL_law 249 = .ok (.iconst 2, 1) := by decide +kernel
theorem dL_law_250 : decode cL_law 250 = .ok (.iadd, 1) := by decide +kernel
theorem dL_law_251 : decode cL_law 251 = .ok (.iaload, 1) := by decide +kernel
theorem dL_law_252 : decode cL_law 252 = .ok (.invokevirtual 18, 3) := by decide +kernel
theorem dL_law_255 : decode cL_law 255 = .ok (.aload_n 2, 1) := by decide +kernel
theorem dL_law_256 : decode cL_law 256 = .ok (.aload_n 0, 1) := by decide +kernel
theorem dL_law_257 : decode cL_law 257 = .ok (.iload_n 3, 1) := by decide +kernel
theorem dL_law_258 : decode cL_law 258 = .ok (.iconst 1, 1) := by decide +kernel
theorem dL_law_259 : decode cL_law 259 = .ok (.iadd, 1) := by decide +kernel
theorem dL_law_260 : decode cL_law 260 = .ok (.iaload, 1) := by decide +kernel
theorem dL_law_261 : decode cL_law 261 = .ok (.aload_n 0, 1) := by decide +kernel
theorem dL_law_262 : decode cL_law 262 = .ok (.iload_n 3, 1) := by decide +kernel
theorem dL_law_263 : decode cL_law 263 = .ok (.iconst 2, 1) := by decide +kernel
theorem dL_law_264 : decode cL_law 264 = .ok (.iadd, 1) := by decide +kernel
theorem dL_law_265 : decode cL_law 265 = .ok (.iaload, 1) := by decide +kernel
theorem dL_law_266 : decode cL_law 266 = .ok (.invokevirtual 21, 3) := by decide +kernel
theorem dL_law_269 : decode cL_law 269 = .ok (.if_icmp .eq 1189, 3) := by decide +kernel
theorem dL_law_272 : decode cL_law 272 = .ok (.iconst 0, 1) := by decide +kernel
theorem dL_law_273 : decode cL_law 273 = .ok (.ireturn, 1) := by decide +kernel
theorem dL_law_274 : decode cL_law 274 = .ok (.aload_n 1, 1) := by decide +kernel
theorem dL_law_275 : decode cL_law 275 = .ok (.aload_n 0, 1) := by decide +kernel
theorem dL_law_276 : decode cL_law 276 = .ok (.iload_n 3, 1) := by decide +kernel
theorem dL_law_277 : decode cL_law 277 = .ok (.iconst 1, 1) := by decide +kernel
theorem dL_law_278 : decode cL_law 278 = .ok (.iadd, 1) := by decide +kernel
theorem dL_law_279 : decode cL_law 279 = .ok (.iaload, 1) := by decide +kernel
theorem dL_law_280 : decode cL_law 280 = .ok (.aload_n 0, 1) := by decide +kernel
theorem dL_law_281 : decode cL_law 281 = .ok (.iload_n 3, 1) := by decide +kernel
theorem dL_law_282 : decode cL_law 282 = .ok (.iconst 2, 1) := by decide +kernel
theorem dL_law_283 : decode cL_law 283 = .ok (.iadd, 1) := by decide +kernel
theorem dL_law_284 : decode cL_law 284 = .ok (.iaload, 1) := by decide +kernel
theorem dL_law_285 : decode cL_law 285 = .ok (.invokevirtual 22, 3) := by decide +kernel
theorem dL_law_288 : decode cL_law 288 = .ok (.aload_n 2, 1) := by decide +kernel
theorem dL_law_289 : decode cL_law 289 = .ok (.aload_n 0, 1) := by decide +kernel
theorem dL_law_290 : decode cL_law 290 = .ok (.iload_n 3, 1) := by decide +kernel
theorem dL_law_291 : decode cL_law 291 = .ok (.iconst 1, 1) := by decide +kernel
theorem dL_law_292 : decode cL_law 292 = .ok (.iadd, 1) := by decide +kernel
theorem dL_law_293 : decode cL_law 293 = .ok (.iaload, 1) := by decide +kernel
theorem dL_law_294 : decode cL_law 294 = .ok (.aload_n 0, 1) := by decide +kernel
theorem dL_law_295 : decode cL_law 295 = .ok (.iload_n 3, 1) := by decide +kernel
theorem dL_law_296 : decode cL_law 296 = .ok (.iconst 2, 1) := by decide +kernel
theorem dL_law_297 : decode cL_law 297 = .ok (.iadd, 1) := by decide +kernel
theorem dL_law_298 : decode cL_law 298 = .ok (.iaload, 1) := by decide +kernel
theorem dL_law_299 : decode cL_law 299 = .ok (.invokevirtual 25, 3) := by decide +kernel
theorem dL_law_302 : decode cL_law 302 = .ok (.if_icmp .eq 1156, 3) := by decide +kernel
theorem dL_law_305 : decode cL_law 305 = .ok (.iconst 0, 1) := by decide +kernel
theorem dL_law_306 : decode cL_law 306 = .ok (.ireturn, 1) := by decide +kernel
theorem dL_law_307 : decode cL_law 307 = .ok (.aload_n 1, 1) := by decide +kernel
theorem dL_law_308 : decode cL_law 308 = .ok (.aload_n 0, 1) := by decide +kernel
theorem dL_law_309 : decode cL_law 309 = .ok (.iload_n 3, 1) := by decide +kernel
theorem dL_law_310 : decode cL_law 310 = .ok (.iconst 1, 1) := by decide +kernel
theorem dL_law_311 : decode cL_law 311 = .ok (.iadd, 1) := by decide +kernel
theorem dL_law_312 : decode cL_law 312 = .ok (.iaload, 1) := by decide +kernel
theorem dL_law_313 : decode cL_law 313 = .ok (.aload_n 0, 1) := by decide +kernel
theorem dL_law_314 : decode cL_law 314 = .ok (.iload_n 3, 1) := by decide +kernel
theorem dL_law_315 : decode cL_law 315 = .ok (.iconst 2, 1) := by decide +kernel
theorem dL_law_316 : decode cL_law 316 = .ok (.iadd, 1) := by decide +kernel
theorem dL_law_317 : decode cL_law 317 = .ok (.iaload, 1) := by decide +kernel
theorem dL_law_318 : decode cL_law 318 = .ok (.invokevirtual 26, 3) := by decide +kernel
theorem dL_law_321 : decode cL_law 321 = .ok (.aload_n 2, 1) := by decide +kernel
theorem dL_law_322 : decode cL_law 322 = .ok (.aload_n 0, 1) := by decide +kernel
theorem dL_law_323 : decode cL_law 323 = .ok (.iload_n 3, 1) := by decide +kernel
theorem dL_law_324 : decode cL_law 324 = .ok (.iconst 1, 1) := by decide +kernel
theorem dL_law_325 : decode cL_law 325 = .ok (.iadd, 1) := by decide +kernel
theorem dL_law_326 : decode cL_law 326 = .ok (.iaload, 1) := by decide +kernel
theorem dL_law_327 : decode cL_law 327 = .ok (.aload_n 0, 1) := by decide +kernel
theorem dL_law_328 : decode cL_law 328 = .ok (.iload_n 3, 1) := by decide +kernel
theorem dL_law_329 : decode cL_law 329 = .ok (.iconst 2, 1) := by decide +kernel
theorem dL_law_330 : decode cL_law 330 = .ok (.iadd, 1) := by decide +kernel
theorem dL_law_331 : decode cL_law 331 = .ok (.iaload, 1) := by decide +kernel
theorem dL_law_332 : decode cL_law 332 = .ok (.invokevirtual 29, 3) := by decide +kernel
theorem dL_law_335 : decode cL_law 335 = .ok (.if_icmp .eq 1123, 3) := by decide +kernel
theorem dL_law_338 : decode cL_law 338 = .ok (.iconst 0, 1) := by decide +kernel
theorem dL_law_339 : decode cL_law 339 = .ok (.ireturn, 1) := by decide +kernel
theorem dL_law_340 : decode cL_law 340 = .ok (.aload_n 1, 1) := by decide +kernel
theorem dL_law_341 : decode cL_law 341 = .ok (.aload_n 0, 1) := by decide +kernel
theorem dL_law_342 : decode cL_law 342 = .ok (.iload_n 3, 1) := by decide +kernel
theorem dL_law_343 : decode cL_law 343 = .ok (.iconst 1, 1) := by decide +kernel
theorem dL_law_344 : decode cL_law 344 = .ok (.iadd, 1) := by decide +kernel
theorem dL_law_345 : decode cL_law 345 = .ok (.iaload, 1) := by decide +kernel
theorem dL_law_346 : decode cL_law 346 = .ok (.aload_n 0, 1) := by decide +kernel
theorem dL_law_347 : decode cL_law 347 = .ok (.iload_n 3, 1) := by decide +kernel
theorem dL_law_348 : decode cL_law 348 = .ok (.iconst 2, 1) := by decide +kernel
theorem dL_law_349 : decode cL_law 349 = .ok (.iadd, 1) := by decide +kernel
theorem dL_law_350 : decode cL_law 350 = .ok (.iaload, 1) := by decide +kernel
theorem dL_law_351 : decode cL_law 351 = .ok (.invokevirtual 30, 3) := by decide +kernel
theorem dL_law_354 : decode cL_law 354 = .ok (.aload_n 2, 1) := by decide +kernel
theorem dL_law_355 : decode cL_law 355 = .ok (.aload_n 0, 1) := by decide +kernel
theorem dL_law_356 : decode cL_law 356 = .ok (.iload_n 3, 1) := by decide +kernel
theorem dL_law_357 : decode cL_law 357 = .ok (.iconst 1, 1) := by decide +kernel
theorem dL_law_358 : decode cL_law 358 = .ok (.iadd, 1) := by decide +kernel
theorem dL_law_359 : decode cL_law 359 = .ok (.iaload, 1) := by decide +kernel
theorem dL_law_360 : decode cL_law 360 = .ok (.aload_n 0, 1) := by decide +kernel
theorem dL_law_361 : decode cL_law 361 = .ok (.iload_n 3, 1) := by decide +kernel
theorem dL_law_362 : decode cL_law 362 = .ok (.iconst 2, 1) := by decide +kernel
theorem dL_law_363 : decode cL_law 363 = .ok (.iadd, 1) := by decide +kernel
theorem dL_law_364 : decode cL_law 364 = .ok (.iaload, 1) := by decide +kernel
theorem dL_law_365 : decode cL_law 365 = .ok (.invokevirtual 33, 3) := by decide +kernel
theorem dL_law_368 : decode cL_law 368 = .ok (.if_icmp .eq 1090, 3) := by decide +kernel
theorem dL_law_371 : decode cL_law 371 = .ok (.iconst 0, 1) := by decide +kernel
theorem dL_law_372 : decode cL_law 372 = .ok (.ireturn, 1) := by decide +kernel
theorem dL_law_373 : decode cL_law 373 = .ok (.aload_n 1, 1) := by decide +kernel
theorem dL_law_374 : decode cL_law 374 = .ok (.aload_n 0, 1) := by decide +kernel
theorem dL_law_375 : decode cL_law 375 = .ok (.iload_n 3, 1) := by decide +kernel
theorem dL_law_376 : decode cL_law 376 = .ok (.iconst 1, 1) := by decide +kernel
theorem dL_law_377 : decode cL_law 377 = .ok (.iadd, 1) := by decide +kernel
theorem dL_law_378 : decode cL_law 378 = .ok (.iaload, 1) := by decide +kernel
theorem dL_law_379 : decode cL_law 379 = .ok (.aload_n 0, 1) := by decide +kernel
theorem dL_law_380 : decode cL_law 380 = .ok (.iload_n 3, 1) := by decide +kernel
theorem dL_law_381 : decode cL_law 381 = .ok (.iconst 2, 1) := by decide +kernel
theorem dL_law_382 : decode cL_law 382 = .ok (.iadd, 1) := by decide +kernel
theorem dL_law_383 : decode cL_law 383 = .ok (.iaload, 1) := by decide +kernel
theorem dL_law_384 : decode cL_law 384 = .ok (.invokevirtual 34, 3) := by decide +kernel
theorem dL_law_387 : decode cL_law 387 = .ok (.aload_n 2, 1) := by decide +kernel
theorem dL_law_388 : decode cL_law 388 = .ok (.aload_n 0, 1) := by decide +kernel
theorem dL_law_389 : decode cL_law 389 = .ok (.iload_n 3, 1) := by decide +kernel
theorem dL_law_390 : decode cL_law 390 = .ok (.iconst 1, 1) := by decide +kernel
theorem dL_law_391 : decode cL_law 391 = .ok (.iadd, 1) := by decide +kernel
theorem dL_law_392 : decode cL_law 392 = .ok (.iaload, 1) := by decide +kernel
theorem dL_law_393 : decode cL_law 393 = .ok (.aload_n 0, 1) := by decide +kernel
theorem dL_law_394 : decode cL_law 394 = .ok (.iload_n 3, 1) := by decide +kernel
theorem dL_law_395 : decode cL_law 395 = .ok (.iconst 2, 1) := by decide +kernel
theorem dL_law_396 : decode cL_law 396 = .ok (.iadd, 1) := by decide +kernel
theorem dL_law_397 : decode cL_law 397 = .ok (.iaload, 1) := by decide +kernel
theorem dL_law_398 : decode cL_law 398 = .ok (.invokevirtual 37, 3) := by decide +kernel
theorem dL_law_401 : decode cL_law 401 = .ok (.if_icmp .eq 1057, 3) := by decide +kernel
theorem dL_law_404 : decode cL_law 404 = .ok (.iconst 0, 1) := by decide +kernel
theorem dL_law_405 : decode cL_law 405 = .ok (.ireturn, 1) := by decide +kernel
theorem dL_law_406 : decode cL_law 406 = .ok (.aload_n 1, 1) := by decide +kernel
theorem dL_law_407 : decode cL_law 407 = .ok (.aload_n 0, 1) := by decide +kernel
theorem dL_law_408 : decode cL_law 408 = .ok (.iload_n 3, 1) := by decide +kernel
theorem dL_law_409 : decode cL_law 409 = .ok (.iconst 1, 1) := by decide +kernel
theorem dL_law_410 : decode cL_law 410 = .ok (.iadd, 1) := by decide +kernel
theorem dL_law_411 : decode cL_law 411 = .ok (.iaload, 1) := by decide +kernel
theorem dL_law_412 : decode cL_law 412 = .ok (.invokevirtual 38, 3) := by decide +kernel
theorem dL_law_415 : decode cL_law 415 = .ok (.aload_n 2, 1) := by decide +kernel
theorem dL_law_416 : decode cL_law 416 = .ok (.aload_n 0, 1) := by decide +kernel
theorem dL_law_417 : decode cL_law 417 = .ok (.iload_n 3, 1) := by decide +kernel
theorem dL_law_418 : decode cL_law 418 = .ok (.iconst 1, 1) := by decide +kernel
theorem dL_law_419 : decode cL_law 419 = .ok (.iadd, 1) := by decide +kernel
theorem dL_law_420 : decode cL_law 420 = .ok (.iaload, 1) := by decide +kernel
theorem dL_law_421 : decode cL_law 421 = .ok (.invokevirtual 42, 3) := by decide +kernel
theorem dL_law_424 : decode cL_law 424 = .ok (.if_icmp .eq 1034, 3) := by decide +kernel
theorem dL_law_427 : decode cL_law 427 = .ok (.iconst 0, 1) := by decide +kernel
theorem dL_law_428 : decode cL_law 428 = .ok (.ireturn, 1) := by decide +kernel
theorem dL_law_429 : decode cL_law 429 = .ok (.aload_n 1, 1) := by decide +kernel
theorem dL_law_430 : decode cL_law 430 = .ok (.aload_n 0, 1) := by decide +kernel
theorem dL_law_431 : decode cL_law 431 = .ok (.iload_n 3, 1) := by decide +kernel
theorem dL_law_432 : decode cL_law 432 = .ok (.iconst 1, 1) := by decide +kernel
theorem dL_law_433 : decode cL_law 433 = .ok (.iadd, 1) := by decide +kernel
theorem dL_law_434 : decode cL_law 434 = .ok (.iaload, 1) := by decide +kernel
theorem dL_law_435 : decode cL_law 435 = .ok (.aload_n 0, 1) := by decide +kernel
theorem dL_law_436 : decode cL_law 436 = .ok (.iload_n 3, 1) := by decide +kernel
theorem dL_law_437 : decode cL_law 437 = .ok (.iconst 2, 1) := by decide +kernel
theorem dL_law_438 : decode cL_law 438 = .ok (.iadd, 1) := by decide +kernel
theorem dL_law_439 : decode cL_law 439 = .ok (.iaload, 1) := by decide +kernel
theorem dL_law_440 : decode cL_law 440 = .ok (.invokevirtual 43, 3) := by decide +kernel
theorem dL_law_443 : decode cL_law 443 = .ok (.aload_n 2, 1) := by decide +kernel
theorem dL_law_444 : decode cL_law 444 = .ok (.aload_n 0, 1) := by decide +kernel
theorem dL_law_445 : decode cL_law 445 = .ok (.iload_n 3, 1) := by decide +kernel
theorem dL_law_446 : decode cL_law 446 = .ok (.iconst 1, 1) := by decide +kernel
theorem dL_law_447 : decode cL_law 447 = .ok (.iadd, 1) := by decide +kernel
theorem dL_law_448 : decode cL_law 448 = .ok (.iaload, 1) := by decide +kernel
theorem dL_law_449 : decode cL_law 449 = .ok (.aload_n 0, 1) := by decide +kernel
theorem dL_law_450 : decode cL_law 450 = .ok (.iload_n 3, 1) := by decide +kernel
theorem dL_law_451 : decode cL_law 451 = .ok (.iconst 2, 1) := by decide +kernel
theorem dL_law_452 : decode cL_law 452 = .ok (.iadd, 1) := by decide +kernel
theorem dL_law_453 : decode cL_law 453 = .ok (.iaload, 1) := by decide +kernel
theorem dL_law_454 : decode cL_law 454 = .ok (.invokevirtual 46, 3) := by decide +kernel
theorem dL_law_457 : decode cL_law 457 = .ok (.if_icmp .eq 1001, 3) := by decide +kernel
theorem dL_law_460 : decode cL_law 460 = .ok (.iconst 0, 1) := by decide +kernel
theorem dL_law_461 : decode cL_law 461 = .ok (.ireturn, 1) := by decide +kernel
theorem dL_law_462 : decode cL_law 462 = .ok (.aload_n 1, 1) := by decide +kernel
theorem dL_law_463 : decode cL_law 463 = .ok (.aload_n 0, 1) := by decide +kernel
theorem dL_law_464 : decode cL_law 464 = .ok (.iload_n 3, 1) := by decide +kernel
theorem dL_law_465 : decode cL_law 465 = .ok (.iconst 1, 1) := by decide +kernel
theorem dL_law_466 : decode cL_law 466 = .ok (.iadd, 1) := by decide +kernel
theorem dL_law_467 : decode cL_law 467 = .ok (.iaload, 1) := by decide +kernel
theorem dL_law_468 : decode cL_law 468 = .ok (.aload_n 0, 1) := by decide +kernel
theorem dL_law_469 : decode cL_law 469 = .ok (.iload_n 3, 1) := by decide +kernel
theorem dL_law_470 : decode cL_law 470 = .ok (.iconst 2, 1) := by decide +kernel
theorem dL_law_471 : decode cL_law 471 = .ok (.iadd, 1) := by decide +kernel
theorem dL_law_472 : decode cL_law 472 = .ok (.iaload, 1) := by decide +kernel
theorem dL_law_473 : decode cL_law 473 = .ok (.invokevirtual 47, 3) := by decide +kernel
theorem dL_law_476 : decode cL_law 476 = .ok (.aload_n 2, 1) := by decide +kernel
theorem dL_law_477 : decode cL_law 477 = .ok (.aload_n 0, 1) := by decide +kernel
theorem dL_law_478 : decode cL_law 478 = .ok (.iload_n 3, 1) := by decide +kernel
theorem dL_law_479 : decode cL_law 479 = .ok (.iconst 1, 1) := by decide +kernel
theorem dL_law_480 : decode cL_law 480 = .ok (.iadd, 1) := by decide +kernel
theorem dL_law_481 : decode cL_law 481 = .ok (.iaload, 1) := by decide +kernel
theorem dL_law_482 : decode cL_law 482 = .ok (.aload_n 0, 1) := by decide +kernel
theorem dL_law_483 : decode cL_law 483 = .ok (.iload_n 3, 1) := by decide +kernel
theorem dL_law_484 : decode cL_law 484 = .ok (.iconst 2, 1) := by decide +kernel
theorem dL_law_485 : decode cL_law 485 = .ok (.iadd, 1) := by decide +kernel
theorem dL_law_486 : decode cL_law 486 = .ok (.iaload, 1) := by decide +kernel
theorem dL_law_487 : decode cL_law 487 = .ok (.invokevirtual 50, 3) := by decide +kernel
theorem dL_law_490 : decode cL_law 490 = .ok (.if_icmp .eq 968, 3) := by decide +kernel
theorem dL_law_493 : decode cL_law 493 = .ok (.iconst 0, 1) := by decide +kernel
theorem dL_law_494 : decode cL_law 494 = .ok (.ireturn, 1) := by decide +kernel
theorem dL_law_495 : decode cL_law 495 = .ok (.aload_n 1, 1) := by decide +kernel
theorem dL_law_496 : decode cL_law 496 = .ok (.aload_n 0, 1) := by decide +kernel
theorem dL_law_497 : decode cL_law 497 = .ok (.iload_n 3, 1) := by decide +kernel
theorem dL_law_498 : decode cL_law 498 = .ok (.iconst 1, 1) := by decide +kernel
theorem dL_law_499 : decode cL_law 499 = .ok (.iadd, 1) := by decide +kernel
theorem dL_law_500 : decode cL_law 500 = .ok (.iaload, 1) := by decide +kernel
theorem dL_law_501 : decode cL_law 501 = .ok (.aload_n 0, 1) := by decide +kernel
theorem dL_law_502 : decode cL_law 502 = .ok (.iload_n 3, 1) := by decide +kernel
theorem dL_law_503 : decode cL_law 503 = .ok (.iconst 2, 1) := by decide +kernel
theorem dL_law_504 : decode cL_law 504 = .ok (.iadd, 1) := by decide +kernel
theorem dL_law_505 : decode cL_law 505 = .ok (.iaload, 1) := by decide +kernel
theorem dL_law_506 : decode cL_law 506 = .ok (.aload_n 0, 1) := by decide +kernel
theorem dL_law_507 : decode cL_law 507 = .ok (.iload_n 3, 1) := by decide +kernel
theorem dL_law_508 : decode cL_law 508 = .ok (.iconst 3, 1) := by decide +kernel
theorem dL_law_509 : decode cL_law 509 = .ok (.iadd, 1) := by decide +kernel
theorem dL_law_510 : decode cL_law 510 = .ok (.iaload, 1) := by decide +kernel
theorem dL_law_511 : decode cL_law 511 = .ok (.invokevirtual 51, 3) := by decide +kernel
theorem dL_law_514 : decode cL_law 514 = .ok (.aload_n 2, 1) := by decide +kernel
theorem dL_law_515 : decode cL_law 515 = .ok (.aload_n 0, 1) := by decide +kernel
theorem dL_law_516 : decode cL_law 516 = .ok (.iload_n 3, 1) := by decide +kernel
theorem dL_law_517 : decode cL_law 517 = .ok (.iconst 1, 1) := by decide +kernel
theorem dL_law_518 : decode cL_law 518 = .ok (.iadd, 1) := by decide +kernel
theorem dL_law_519 : decode cL_law 519 = .ok (.iaload, 1) := by decide +kernel
theorem dL_law_520 : decode cL_law 520 = .ok (.aload_n 0, 1) := by decide +kernel
theorem dL_law_521 : decode cL_law 521 = .ok (.iload_n 3, 1) := by decide +kernel
theorem dL_law_522 : decode cL_law 522 = .ok (.iconst 2, 1) := by decide +kernel
theorem dL_law_523 : decode cL_law 523 = .ok (.iadd, 1) := by decide +kernel
theorem dL_law_524 : decode cL_law 524 = .ok (.iaload, 1) := by decide +kernel
theorem dL_law_525 : decode cL_law 525 = .ok (.aload_n 0, 1) := by decide +kernel
theorem dL_law_526 : decode cL_law 526 = .ok (.iload_n 3, 1) := by decide +kernel
theorem dL_law_527 : decode cL_law 527 = .ok (.iconst 3, 1) := by decide +kernel
theorem dL_law_528 : decode cL_law 528 = .ok (.iadd, 1) := by decide +kernel
theorem dL_law_529 : decode cL_law 529 = .ok (.iaload, 1) := by decide +kernel
theorem dL_law_530 : decode cL_law 530 = .ok (.invokevirtual 55, 3) := by decide +kernel
theorem dL_law_533 : decode cL_law 533 = .ok (.if_icmp .eq 925, 3) := by decide +kernel
theorem dL_law_536 : decode cL_law 536 = .ok (.iconst 0, 1) := by decide +kernel
theorem dL_law_537 : decode cL_law 537 = .ok (.ireturn, 1) := by decide +kernel
theorem dL_law_538 : decode cL_law 538 = .ok (.aload_n 1, 1) := by decide +kernel
theorem dL_law_539 : decode cL_law 539 = .ok (.aload_n 0, 1) := by decide +kernel
theorem dL_law_540 : decode cL_law 540 = .ok (.iload_n 3, 1) := by decide +kernel
theorem dL_law_541 : decode cL_law 541 = .ok (.iconst 1, 1) := by decide +kernel
theorem dL_law_542 : decode cL_law 542 = .ok (.iadd, 1) := by decide +kernel
theorem dL_law_543 : decode cL_law 543 = .ok (.iaload, 1) := by decide +kernel
theorem dL_law_544 : decode cL_law 544 = .ok (.aload_n 0, 1) := by decide +kernel
theorem dL_law_545 : decode cL_law 545 = .ok (.iload_n 3, 1) := by decide +kernel
theorem dL_law_546 : decode cL_law 546 = .ok (.iconst 2, 1) := by decide +kernel
theorem dL_law_547 : decode cL_law 547 = .ok (.iadd, 1) := by decide +kernel
theorem dL_law_548 : decode cL_law 548 = .ok (.iaload, 1) := by decide +kernel
theorem dL_law_549 : decode cL_law 549 = .ok (.invokevirtual 56, 3) := by decide +kernel
theorem dL_law_552 : decode cL_law 552 = .ok (.aload_n 2, 1) := by decide +kernel
theorem dL_law_553 : decode cL_law 553 = .ok (.aload_n 0, 1) := by decide +kernel
theorem dL_law_554 : decode cL_law 554 = .ok (.iload_n 3, 1) := by decide +kernel
theorem dL_law_555 : decode cL_law 555 = .ok (.iconst 1, 1) := by decide +kernel
theorem dL_law_556 : decode cL_law 556 = .ok (.iadd, 1) := by decide +kernel
theorem dL_law_557 : decode cL_law 557 = .ok (.iaload, 1) := by decide +kernel
theorem dL_law_558 : decode cL_law 558 = .ok (.aload_n 0, 1) := by decide +kernel
theorem dL_law_559 : decode cL_law 559 = .ok (.iload_n 3, 1) := by decide +kernel
theorem dL_law_560 : decode cL_law 560 = .ok (.iconst 2, 1) := by decide +kernel
theorem dL_law_561 : decode cL_law 561 = .ok (.iadd, 1) := by decide +kernel
theorem dL_law_562 : decode cL_law 562 = .ok (.iaload, 1) := by decide +kernel
theorem dL_law_563 : decode cL_law 563 = .ok (.invokevirtual 59, 3) := by decide +kernel
theorem dL_law_566 : decode cL_law 566 = .ok (.if_icmp .eq 892, 3) := by decide +kernel
theorem dL_law_569 : decode cL_law 569 = .ok (.iconst 0, 1) := by decide +kernel
theorem dL_law_570 : decode cL_law 570 = .ok (.ireturn, 1) := by decide +kernel
theorem dL_law_571 : decode cL_law 571 = .ok (.aload_n 1, 1) := by decide +kernel
theorem dL_law_572 : decode cL_law 572 = .ok (.aload_n 0, 1) := by decide +kernel
theorem dL_law_573 : decode cL_law 573 = .ok (.iload_n 3, 1) := by decide +kernel
theorem dL_law_574 : decode cL_law 574 = .ok (.iconst 1, 1) := by decide +kernel
theorem dL_law_575 : decode cL_law 575 = .ok (.iadd, 1) := by decide +kernel
theorem dL_law_576 : decode cL_law 576 = .ok (.iaload, 1) := by decide +kernel
theorem dL_law_577 : decode cL_law 577 = .ok (.i2l, 1) := by decide +kernel
theorem dL_law_578 : decode cL_law 578 = .ok (.bipush 32, 2) := by decide +kernel
theorem dL_law_580 : decode cL_law 580 = .ok (.lshl, 1) := by decide +kernel
theorem dL_law_581 : decode cL_law 581 = .ok (.aload_n 0, 1) := by decide +kernel
theorem dL_law_582 : decode cL_law 582 = .ok (.iload_n 3, 1) := by decide +kernel
theorem dL_law_583 : decode cL_law 583 = .ok (.iconst 2, 1) := by decide +kernel
theorem dL_law_584 : decode cL_law 584 = .ok (.iadd, 1) := by decide +kernel
theorem dL_law_585 : decode cL_law 585 = .ok (.iaload, 1) := by decide +kernel
theorem dL_law_586 : decode cL_law 586 = .ok (.i2l, 1) := by decide +kernel
theorem dL_law_587 : decode cL_law 587 = .ok (.ldc2_w 60, 3) := by decide +kernel
theorem dL_law_590 : decode cL_law 590 = .ok (.land, 1) := by decide +kernel
theorem dL_law_591 : decode cL_law 591 = .ok (.lor, 1) := by decide +kernel
theorem dL_law_592 : decode cL_law 592 = .ok (.aload_n 0, 1) := by decide +kernel
theorem dL_law_593 : decode cL_law 593 = .ok (.iload_n 3, 1) := by decide +kernel
theorem dL_law_594 : decode cL_law 594 = .ok (.iconst 3, 1) := by decide +kernel
theorem dL_law_595 : decode cL_law 595 = .ok (.iadd, 1) := by decide +kernel
theorem dL_law_596 : decode cL_law 596 = .ok (.iaload, 1) := by decide +kernel
theorem dL_law_597 : decode cL_law 597 = .ok (.invokevirtual 62, 3) := by decide +kernel
theorem dL_law_600 : decode cL_law 600 = .ok (.aload_n 2, 1) := by decide +kernel
theorem dL_law_601 : decode cL_law 601 = .ok (.aload_n 0, 1) := by decide +kernel
theorem dL_law_602 : decode cL_law 602 = .ok (.iload_n 3, 1) := by decide +kernel
theorem dL_law_603 : decode cL_law 603 = .ok (.iconst 1, 1) := by decide +kernel
theorem dL_law_604 : decode cL_law 604 = .ok (.iadd, 1) := by decide +kernel
theorem dL_law_605 : decode cL_law 605 = .ok (.iaload, 1) := by decide +kernel
theorem dL_law_606 : decode cL_law 606 = .ok (.i2l, 1) := by decide +kernel
theorem dL_law_607 : decode cL_law 607 = .ok (.bipush 32, 2) := by decide +kernel
theorem dL_law_609 : decode cL_law 609 = .ok (.lshl, 1) := by decide +kernel
theorem dL_law_610 : decode cL_law 610 = .ok (.aload_n 0, 1) := by decide +kernel
theorem dL_law_611 : decode cL_law 611 = .ok (.iload_n 3, 1) := by decide +kernel
theorem dL_law_612 : decode cL_law 612 = .ok (.iconst 2, 1) := by decide +kernel
theorem dL_law_613 : decode cL_law 613 = .ok (.iadd, 1) := by decide +kernel
theorem dL_law_614 : decode cL_law 614 = .ok (.iaload, 1) := by decide +kernel
theorem dL_law_615 : decode cL_law 615 = .ok (.i2l, 1) := by decide +kernel
theorem dL_law_616 : decode cL_law 616 = .ok (.ldc2_w 60, 3) := by decide +kernel
theorem dL_law_619 : decode cL_law 619 = .ok (.land, 1) := by decide +kernel
theorem dL_law_620 : decode cL_law 620 = .ok (.lor, 1) := by decide +kernel
theorem dL_law_621 : decode cL_law 621 = .ok (.aload_n 0, 1) := by decide +kernel
theorem dL_law_622 : decode cL_law 622 = .ok (.iload_n 3, 1) := by decide +kernel
theorem dL_law_623 : decode cL_law 623 = .ok (.iconst 3, 1) := by decide +kernel
theorem dL_law_624 : decode cL_law 624 = .ok (.iadd, 1) := by decide +kernel
theorem dL_law_625 : decode cL_law 625 = .ok (.iaload, 1) := by decide +kernel
theorem dL_law_626 : decode cL_law 626 = .ok (.invokevirtual 66, 3) := by decide +kernel
theorem dL_law_629 : decode cL_law 629 = .ok (.if_icmp .eq 829, 3) := by decide +kernel
theorem dL_law_632 : decode cL_law 632 = .ok (.iconst 0, 1) := by decide +kernel
theorem dL_law_633 : decode cL_law 633 = .ok (.ireturn, 1) := by decide +kernel
theorem dL_law_634 : decode cL_law 634 = .ok (.aload_n 1, 1) := by decide +kernel
theorem dL_law_635 : decode cL_law 635 = .ok (.aload_n 0, 1) := by decide +kernel
theorem dL_law_636 : decode cL_law 636 = .ok (.iload_n 3, 1) := by decide +kernel
theorem dL_law_637 : decode cL_law 637 = .ok (.iconst 1, 1) := by decide +kernel
theorem dL_law_638 : decode cL_law 638 = .ok (.iadd, 1) := by decide +kernel
theorem dL_law_639 : decode cL_law 639 = .ok (.iaload, 1) := by decide +kernel
theorem dL_law_640 : decode cL_law 640 = .ok (.invokevirtual 67, 3) := by decide +kernel
theorem dL_law_643 : decode cL_law 643 = .ok (.aload_n 2, 1) := by decide +kernel
theorem dL_law_644 : decode cL_law 644 = .ok (.aload_n 0, 1) := by decide +kernel
theorem dL_law_645 : decode cL_law 645 = .ok (.iload_n 3, 1) := by decide +kernel
theorem dL_law_646 : decode cL_law 646 = .ok (.iconst 1, 1) := by decide +kernel
theorem dL_law_647 : decode cL_law 647 = .ok (.iadd, 1) := by decide +kernel
theorem dL_law_648 : decode cL_law 648 = .ok (.iaload, 1) := by decide +kernel
theorem dL_law_649 : decode cL_law 649 = .ok (.invokevirtual 70, 3) := by decide +kernel
theorem dL_law_652 : decode cL_law 652 = .ok (.if_icmp .eq 806, 3) := by decide +kernel
theorem dL_law_655 : decode cL_law 655 = .ok (.iconst 0, 1) := by decide +kernel
theorem dL_law_656 : decode cL_law 656 = .ok (.ireturn, 1) := by decide +kernel
theorem dL_law_657 : decode cL_law 657 = .ok (.aload_n 1, 1) := by decide +kernel
theorem dL_law_658 : decode cL_law 658 = .ok (.aload_n 0, 1) := by decide +kernel
theorem dL_law_659 : decode cL_law 659 = .ok (.iload_n 3, 1) := by decide +kernel
theorem dL_law_660 : decode cL_law 660 = .ok (.iconst 1, 1) := by decide +kernel
theorem dL_law_661 : decode cL_law 661 = .ok (.iadd, 1) := by decide +kernel
theorem dL_law_662 : decode cL_law 662 = .ok (.iaload, 1) := by decide +kernel
theorem dL_law_663 : decode cL_law 663 = .ok (.invokevirtual 71, 3) := by decide +kernel
theorem dL_law_666 : decode cL_law 666 = .ok (.aload_n 2, 1) := by decide +kernel
theorem dL_law_667 : decode cL_law 667 = .ok (.aload_n 0, 1) := by decide +kernel
theorem dL_law_668 : decode cL_law 668 = .ok (.iload_n 3, 1) := by decide +kernel
theorem dL_law_669 : decode cL_law 669 = .ok (.iconst 1, 1) := by decide +kernel
theorem dL_law_670 : decode cL_law 670 = .ok (.iadd, 1) := by decide +kernel
theorem dL_law_671 : decode cL_law 671 = .ok (.iaload, 1) := by decide +kernel
theorem dL_law_672 : decode cL_law 672 = .ok (.invokevirtual 74, 3) := by decide +kernel
theorem dL_law_675 : decode cL_law 675 = .ok (.if_icmp .eq 783, 3) := by decide +kernel
theorem dL_law_678 : decode cL_law 678 = .ok (.iconst 0, 1) := by decide +kernel
theorem dL_law_679 : decode cL_law 679 = .ok (.ireturn, 1) := by decide +kernel
theorem dL_law_680 : decode cL_law 680 = .ok (.aload_n 1, 1) := by decide +kernel
theorem dL_law_681 : decode cL_law 681 = .ok (.aload_n 0, 1) := by decide +kernel
theorem dL_law_682 : decode cL_law 682 = .ok (.iload_n 3, 1) := by decide +kernel
theorem dL_law_683 : decode cL_law 683 = .ok (.iconst 1, 1) := by decide +kernel
theorem dL_law_684 : decode cL_law 684 = .ok (.iadd, 1) := by decide +kernel
theorem dL_law_685 : decode cL_law 685 = .ok (.iaload, 1) := by decide +kernel
theorem dL_law_686 : decode cL_law 686 = .ok (.aload_n 0, 1) := by decide +kernel
theorem dL_law_687 : decode cL_law 687 = .ok (.iload_n 3, 1) := by decide +kernel
theorem dL_law_688 : decode cL_law 688 = .ok (.iconst 2, 1) := by decide +kernel
theorem dL_law_689 : decode cL_law 689 = .ok (.iadd, 1) := by decide +kernel
theorem dL_law_690 : decode cL_law 690 = .ok (.iaload, 1) := by decide +kernel
theorem dL_law_691 : decode cL_law 691 = .ok (.aload_n 0, 1) := by decide +kernel
theorem dL_law_692 : decode cL_law 692 = .ok (.iload_n 3, 1) := by decide +kernel
theorem dL_law_693 : decode cL_law 693 = .ok (.iconst 3, 1) := by decide +kernel
theorem dL_law_694 : decode cL_law 694 = .ok (.iadd, 1) := by decide +kernel
theorem dL_law_695 : decode cL_law 695 = .ok (.iaload, 1) := by decide +kernel
theorem dL_law_696 : decode cL_law 696 = .ok (.aload_n 0, 1) := by decide +kernel
theorem dL_law_697 : decode cL_law 697 = .ok (.iload_n 3, 1) := by decide +kernel
theorem dL_law_698 : decode cL_law 698 = .ok (.iconst 4, 1) := by decide +kernel
theorem dL_law_699 : decode cL_law 699 = .ok (.iadd, 1) := by decide +kernel
theorem dL_law_700 : decode cL_law 700 = .ok (.iaload, 1) := by decide +kernel
theorem dL_law_701 : decode cL_law 701 = .ok (.invokevirtual 75, 3) := by decide +kernel
theorem dL_law_704 : decode cL_law 704 = .ok (.aload_n 2, 1) := by decide +kernel
theorem dL_law_705 : decode cL_law 705 = .ok (.aload_n 0, 1) := by decide +kernel
theorem dL_law_706 : decode cL_law 706 = .ok (.iload_n 3, 1) := by decide +kernel
theorem dL_law_707 : decode cL_law 707 = .ok (.iconst 1, 1) := by decide +kernel
theorem dL_law_708 : decode cL_law 708 = .ok (.iadd, 1) := by decide +kernel
theorem dL_law_709 : decode cL_law 709 = .ok (.iaload, 1) := by decide +kernel
theorem dL_law_710 : decode cL_law 710 = .ok (.aload_n 0, 1) := by decide +kernel
theorem dL_law_711 : decode cL_law 711 = .ok (.iload_n 3, 1) := by decide +kernel
theorem dL_law_712 : decode cL_law 712 = .ok (.iconst 2, 1) := by decide +kernel
theorem dL_law_713 : decode cL_law 713 = .ok (.iadd, 1) := by decide +kernel
theorem dL_law_714 : decode cL_law 714 = .ok (.iaload, 1) := by decide +kernel
theorem dL_law_715 : decode cL_law 715 = .ok (.aload_n 0, 1) := by decide +kernel
theorem dL_law_716 : decode cL_law 716 = .ok (.iload_n 3, 1) := by decide +kernel
theorem dL_law_717 : decode cL_law 717 = .ok (.iconst 3, 1) := by decide +kernel
theorem dL_law_718 : decode cL_law 718 = .ok (.iadd, 1) := by decide +kernel
theorem dL_law_719 : decode cL_law 719 = .ok (.iaload, 1) := by decide +kernel
theorem dL_law_720 : decode cL_law 720 = .ok (.aload_n 0, 1) := by decide +kernel
theorem dL_law_721 : decode cL_law 721 = .ok (.iload_n 3, 1) := by decide +kernel
theorem dL_law_722 : decode cL_law 722 = .ok (.iconst 4, 1) := by decide +kernel
theorem dL_law_723 : decode cL_law 723 = .ok (.iadd, 1) := by decide +kernel
theorem dL_law_724 : decode cL_law 724 = .ok (.iaload, 1) := by decide +kernel
theorem dL_law_725 : decode cL_law 725 = .ok (.invokevirtual 79, 3) := by decide +kernel
theorem dL_law_728 : decode cL_law 728 = .ok (.if_icmp .eq 730, 3) := by decide +kernel
theorem dL_law_731 : decode cL_law 731 = .ok (.iconst 0, 1) := by decide +kernel
theorem dL_law_732 : decode cL_law 732 = .ok (.ireturn, 1) := by decide +kernel
theorem dL_law_733 : decode cL_law 733 = .ok (.aload_n 1, 1) := by decide +kernel
theorem dL_law_734 : decode cL_law 734 = .ok (.aload_n 0, 1) := by decide +kernel
theorem dL_law_735 : decode cL_law 735 = .ok (.iload_n 3, 1) := by decide +kernel
theorem dL_law_736 : decode cL_law 736 = .ok (.iconst 1, 1) := by decide +kernel
theorem dL_law_737 : decode cL_law 737 = .ok (.iadd, 1) := by decide +kernel
theorem dL_law_738 : decode cL_law 738 = .ok (.iaload, 1) := by decide +kernel
theorem dL_law_739 : decode cL_law 739 = .ok (.invokevirtual 80, 3) := by decide +kernel
theorem dL_law_742 : decode cL_law 742 = .ok (.aload_n 2, 1) := by decide +kernel
theorem dL_law_743 : decode cL_law 743 = .ok (.aload_n 0, 1) := by decide +kernel
theorem dL_law_744 : decode cL_law 744 = .ok (.iload_n 3, 1) := by decide +kernel
theorem dL_law_745 : decode cL_law 745 = .ok (.iconst 1, 1) := by decide +kernel
theorem dL_law_746 : decode cL_law 746 = .ok (.iadd, 1) := by decide +kernel
theorem dL_law_747 : decode cL_law 747 = .ok (.iaload, 1) := by decide +kernel
theorem dL_law_748 : decode cL_law 748 = .ok (.invokevirtual 83, 3) := by decide +kernel
theorem dL_law_751 : decode cL_law 751 = .ok (.if_icmp .eq 707, 3) := by decide +kernel
theorem dL_law_754 : decode cL_law 754 = .ok (.iconst 0, 1) := by decide +kernel
theorem dL_law_755 : decode cL_law 755 = .ok (.ireturn, 1) := by decide +kernel
theorem dL_law_756 : decode cL_law 756 = .ok (.aload_n 1, 1) := by decide +kernel
theorem dL_law_757 : decode cL_law 757 = .ok (.aload_n 0, 1) := by decide +kernel
theorem dL_law_758 : decode cL_law 758 = .ok (.iload_n 3, 1) := by decide +kernel
theorem dL_law_759 : decode cL_law 759 = .ok (.iconst 1, 1) := by decide +kernel
theorem dL_law_760 : decode cL_law 760 = .ok (.iadd, 1) := by decide +kernel
theorem dL_law_761 : decode cL_law 761 = .ok (.iaload, 1) := by decide +kernel
theorem dL_law_762 : decode cL_law 762 = .ok (.invokevirtual 84, 3) := by decide +kernel
theorem dL_law_765 : decode cL_law 765 = .ok (.aload_n 2, 1) := by decide +kernel
theorem dL_law_766 : decode cL_law 766 = .ok (.aload_n 0, 1) := by decide +kernel
theorem dL_law_767 : decode cL_law 767 = .ok (.iload_n 3, 1) := by decide +kernel
theorem dL_law_768 : decode cL_law 768 = .ok (.iconst 1, 1) := by decide +kernel
theorem dL_law_769 : decode cL_law 769 = .ok (.iadd, 1) := by decide +kernel
theorem dL_law_770 : decode cL_law 770 = .ok (.iaload, 1) := by decide +kernel
theorem dL_law_771 : decode cL_law 771 = .ok (.invokevirtual 87, 3) := by decide +kernel
theorem dL_law_774 : decode cL_law 774 = .ok (.if_icmp .eq 684, 3) := by decide +kernel
theorem dL_law_777 : decode cL_law 777 = .ok (.iconst 0, 1) := by decide +kernel
theorem dL_law_778 : decode cL_law 778 = .ok (.ireturn, 1) := by decide +kernel
theorem dL_law_779 : decode cL_law 779 = .ok (.aload_n 1, 1) := by decide +kernel
theorem dL_law_780 : decode cL_law 780 = .ok (.aload_n 0, 1) := by decide +kernel
theorem dL_law_781 : decode cL_law 781 = .ok (.iload_n 3, 1) := by decide +kernel
theorem dL_law_782 : decode cL_law 782 = .ok (.iconst 1, 1) := by decide +kernel
theorem dL_law_783 : decode cL_law 783 = .ok (.iadd, 1) := by decide +kernel
theorem dL_law_784 : decode cL_law 784 = .ok (.iaload, 1) := by decide +kernel
theorem dL_law_785 : decode cL_law 785 = .ok (.invokevirtual 88, 3) := by decide +kernel
theorem dL_law_788 : decode cL_law 788 = .ok (.aload_n 2, 1) := by decide +kernel
theorem dL_law_789 : decode cL_law 789 = .ok (.aload_n 0, 1) := by decide +kernel
theorem dL_law_790 : decode cL_law 790 = .ok (.iload_n 3, 1) := by decide +kernel
theorem dL_law_791 : decode cL_law 791 = .ok (.iconst 1, 1) := by decide +kernel
theorem dL_law_792 : decode cL_law 792 = .ok (.iadd, 1) := by decide +kernel
theorem dL_law_793 : decode cL_law 793 = .ok (.iaload, 1) := by decide +kernel
theorem dL_law_794 : decode cL_law 794 = .ok (.invokevirtual 91, 3) := by decide +kernel
theorem dL_law_797 : decode cL_law 797 = .ok (.if_icmp .eq 661, 3) := by decide +kernel
theorem dL_law_800 : decode cL_law 800 = .ok (.iconst 0, 1) := by decide +kernel
theorem dL_law_801 : decode cL_law 801 = .ok (.ireturn, 1) := by decide +kernel
theorem dL_law_802 : decode cL_law 802 = .ok (.aload_n 1, 1) := by decide +kernel
theorem dL_law_803 : decode cL_law 803 = .ok (.aload_n 0, 1) := by decide +kernel
theorem dL_law_804 : decode cL_law 804 = .ok (.iload_n 3, 1) := by decide +kernel
theorem dL_law_805 : decode cL_law 805 = .ok (.iconst 1, 1) := by decide +kernel
theorem dL_law_806 : decode cL_law 806 = .ok (.iadd, 1) := by decide +kernel
theorem dL_law_807 : decode cL_law 807 = .ok (.iaload, 1) := by decide +kernel
theorem dL_law_808 : decode cL_law 808 = .ok (.invokevirtual 92, 3) := by decide +kernel
theorem dL_law_811 : decode cL_law 811 = .ok (.aload_n 2, 1) := by decide +kernel
theorem dL_law_812 : decode cL_law 812 = .ok (.aload_n 0, 1) := by decide +kernel
theorem dL_law_813 : decode cL_law 813 = .ok (.iload_n 3, 1) := by decide +kernel
theorem dL_law_814 : decode cL_law 814 = .ok (.iconst 1, 1) := by decide +kernel
theorem dL_law_815 : decode cL_law 815 = .ok (.iadd, 1) := by decide +kernel
theorem dL_law_816 : decode cL_law 816 = .ok (.iaload, 1) := by decide +kernel
theorem dL_law_817 : decode cL_law 817 = .ok (.invokevirtual 95, 3) := by decide +kernel
theorem dL_law_820 : decode cL_law 820 = .ok (.if_icmp .eq 638, 3) := by decide +kernel
theorem dL_law_823 : decode cL_law 823 = .ok (.iconst 0, 1) := by decide +kernel
theorem dL_law_824 : decode cL_law 824 = .ok (.ireturn, 1) := by decide +kernel
theorem dL_law_825 : decode cL_law 825 = .ok (.aload_n 1, 1) := by decide +kernel
theorem dL_law_826 : decode cL_law 826 = .ok (.aload_n 0, 1) := by decide +kernel
theorem dL_law_827 : decode cL_law 827 = .ok (.iload_n 3, 1) := by decide +kernel
theorem dL_law_828 : decode cL_law 828 = .ok (.iconst 1, 1) := by decide +kernel
theorem dL_law_829 : decode cL_law 829 = .ok (.iadd, 1) := by decide +kernel
theorem dL_law_830 : decode cL_law 830 = .ok (.iaload, 1) := by decide +kernel
theorem dL_law_831 : decode cL_law 831 = .ok (.aload_n 0, 1) := by decide +kernel
theorem dL_law_832 : decode cL_law 832 = .ok (.iload_n 3, 1) := by decide +kernel
theorem dL_law_833 : decode cL_law 833 = .ok (.iconst 2, 1) := by decide +kernel
theorem dL_law_834 : decode cL_law 834 = .ok (.iadd, 1) := by decide +kernel
theorem dL_law_835 : decode cL_law 835 = .ok (.iaload, 1) := by decide +kernel
theorem dL_law_836 : decode cL_law 836 = .ok (.invokevirtual 96, 3) := by decide +kernel
theorem dL_law_839 : decode cL_law 839 = .ok (.aload_n 2, 1) := by decide +kernel
theorem dL_law_840 : decode cL_law 840 = .ok (.aload_n 0, 1) := by decide +kernel
theorem dL_law_841 : decode cL_law 841 = .ok (.iload_n 3, 1) := by decide +kernel
theorem dL_law_842 : decode cL_law 842 = .ok (.iconst 1, 1) := by decide +kernel
theorem dL_law_843 : decode cL_law 843 = .ok (.iadd, 1) := by decide +kernel
theorem dL_law_844 : decode cL_law 844 = .ok (.iaload, 1) := by decide +kernel
theorem dL_law_845 : decode cL_law 845 = .ok (.aload_n 0, 1) := by decide +kernel
theorem dL_law_846 : decode cL_law 846 = .ok (.iload_n 3, 1) := by decide +kernel
theorem dL_law_847 : decode cL_law 847 = .ok (.iconst 2, 1) := by decide +kernel
theorem dL_law_848 : decode cL_law 848 = .ok (.iadd, 1) := by decide +kernel
theorem dL_law_849 : decode cL_law 849 = .ok (.iaload, 1) := by decide +kernel
theorem dL_law_850 : decode cL_law 850 = .ok (.invokevirtual 99, 3) := by decide +kernel
theorem dL_law_853 : decode cL_law 853 = .ok (.if_icmp .eq 605, 3) := by decide +kernel
theorem dL_law_856 : decode cL_law 856 = .ok (.iconst 0, 1) := by decide +kernel
theorem dL_law_857 : decode cL_law 857 = .ok (.ireturn, 1) := by decide +kernel
theorem dL_law_858 : decode cL_law 858 = .ok (.aload_n 1, 1) := by decide +kernel
theorem dL_law_859 : decode cL_law 859 = .ok (.aload_n 0, 1) := by decide +kernel
theorem dL_law_860 : decode cL_law 860 = .ok (.iload_n 3, 1) := by decide +kernel
theorem dL_law_861 : decode cL_law 861 = .ok (.iconst 1, 1) := by decide +kernel
theorem dL_law_862 : decode cL_law 862 = .ok (.iadd, 1) := by decide +kernel
theorem dL_law_863 : decode cL_law 863 = .ok (.iaload, 1) := by decide +kernel
theorem dL_law_864 : decode cL_law 864 = .ok (.aload_n 0, 1) := by decide +kernel
theorem dL_law_865 : decode cL_law 865 = .ok (.iload_n 3, 1) := by decide +kernel
theorem dL_law_866 : decode cL_law 866 = .ok (.iconst 2, 1) := by decide +kernel
theorem dL_law_867 : decode cL_law 867 = .ok (.iadd, 1) := by decide +kernel
theorem dL_law_868 : decode cL_law 868 = .ok (.iaload, 1) := by decide +kernel
theorem dL_law_869 : decode cL_law 869 = .ok (.invokevirtual 100, 3) := by decide +kernel
theorem dL_law_872 : decode cL_law 872 = .ok (.aload_n 2, 1) := by decide +kernel
theorem dL_law_873 : decode cL_law 873 = .ok (.aload_n 0, 1) := by decide +kernel
theorem dL_law_874 : decode cL_law 874 = .ok (.iload_n 3, 1) := by decide +kernel
theorem dL_law_875 : decode cL_law 875 = .ok (.iconst 1, 1) := by decide +kernel
theorem dL_law_876 : decode cL_law 876 = .ok (.iadd, 1) := by decide +kernel
theorem dL_law_877 : decode cL_law 877 = .ok (.iaload, 1) := by decide +kernel
theorem dL_law_878 : decode cL_law 878 = .ok (.aload_n 0, 1) := by decide +kernel
theorem dL_law_879 : decode cL_law 879 = .ok (.iload_n 3, 1) := by decide +kernel
theorem dL_law_880 : decode cL_law 880 = .ok (.iconst 2, 1) := by decide +kernel
theorem dL_law_881 : decode cL_law 881 = .ok (.iadd, 1) := by decide +kernel
theorem dL_law_882 : decode cL_law 882 = .ok (.iaload, 1) := by decide +kernel
theorem dL_law_883 : decode cL_law 883 = .ok (.invokevirtual 103, 3) := by decide +kernel
theorem dL_law_886 : decode cL_law 886 = .ok (.if_icmp .eq 572, 3) := by decide +kernel
theorem dL_law_889 : decode cL_law 889 = .ok (.iconst 0, 1) := by decide +kernel
theorem dL_law_890 : decode cL_law 890 = .ok (.ireturn, 1) := by decide +kernel
theorem dL_law_891 : decode cL_law 891 = .ok (.aload_n 1, 1) := by decide +kernel
theorem dL_law_892 : decode cL_law 892 = .ok (.aload_n 0, 1) := by decide +kernel
theorem dL_law_893 : decode cL_law 893 = .ok (.iload_n 3, 1) := by decide +kernel
theorem dL_law_894 : decode cL_law 894 = .ok (.iconst 1, 1) := by decide +kernel
theorem dL_law_895 : decode cL_law 895 = .ok (.iadd, 1) := by decide +kernel
theorem dL_law_896 : decode cL_law 896 = .ok (.iaload, 1) := by decide +kernel
theorem dL_law_897 : decode cL_law 897 = .ok (.aload_n 0, 1) := by decide +kernel
theorem dL_law_898 : decode cL_law 898 = .ok (.iload_n 3, 1) := by decide +kernel
theorem dL_law_899 : decode cL_law 899 = .ok (.iconst 2, 1) := by decide +kernel
theorem dL_law_900 : decode cL_law 900 = .ok (.iadd, 1) := by decide +kernel
theorem dL_law_901 : decode cL_law 901 = .ok (.iaload, 1) := by decide +kernel
theorem dL_law_902 : decode cL_law 902 = .ok (.aload_n 0, 1) := by decide +kernel
theorem dL_law_903 : decode cL_law 903 = .ok (.iload_n 3, 1) := by decide +kernel
theorem dL_law_904 : decode cL_law 904 = .ok (.iconst 3, 1) := by decide +kernel
theorem dL_law_905 : decode cL_law 905 = .ok (.iadd, 1) := by decide +kernel
theorem dL_law_906 : decode cL_law 906 = .ok (.iaload, 1) := by decide +kernel
theorem dL_law_907 : decode cL_law 907 = .ok (.invokevirtual 104, 3) := by decide +kernel
theorem dL_law_910 : decode cL_law 910 = .ok (.aload_n 2, 1) := by decide +kernel
theorem dL_law_911 : decode cL_law 911 = .ok (.aload_n 0, 1) := by decide +kernel
theorem dL_law_912 : decode cL_law 912 = .ok (.iload_n 3, 1) := by decide +kernel
theorem dL_law_913 : decode cL_law 913 = .ok (.iconst 1, 1) := by decide +kernel
theorem dL_law_914 : decode cL_law 914 = .ok (.iadd, 1) := by decide +kernel
theorem dL_law_915 : decode cL_law 915 = .ok (.iaload, 1) := by decide +kernel
theorem dL_law_916 : decode cL_law 916 = .ok (.aload_n 0, 1) := by decide +kernel
theorem dL_law_917 : decode cL_law 917 = .ok (.iload_n 3, 1) := by decide +kernel
theorem dL_law_918 : decode cL_law 918 = .ok (.iconst 2, 1) := by decide +kernel
theorem dL_law_919 : decode cL_law 919 = .ok (.iadd, 1) := by decide +kernel
theorem dL_law_920 : decode cL_law 920 = .ok (.iaload, 1) := by decide +kernel
theorem dL_law_921 : decode cL_law 921 = .ok (.aload_n 0, 1) := by decide +kernel
theorem dL_law_922 : decode cL_law 922 = .ok (.iload_n 3, 1) := by decide +kernel
theorem dL_law_923 : decode cL_law 923 = .ok (.iconst 3, 1) := by decide +kernel
theorem dL_law_924 : decode cL_law 924 = .ok (.iadd, 1) := by decide +kernel
theorem dL_law_925 : decode cL_law 925 = .ok (.iaload, 1) := by decide +kernel
theorem dL_law_926 : decode cL_law 926 = .ok (.invokevirtual 107, 3) := by decide +kernel
theorem dL_law_929 : decode cL_law 929 = .ok (.if_icmp .eq 529, 3) := by decide +kernel
theorem dL_law_932 : decode cL_law 932 = .ok (.iconst 0, 1) := by decide +kernel
theorem dL_law_933 : decode cL_law 933 = .ok (.ireturn, 1) := by decide +kernel
theorem dL_law_934 : decode cL_law 934 = .ok (.aload_n 1, 1) := by decide +kernel
theorem dL_law_935 : decode cL_law 935 = .ok (.aload_n 0, 1) := by decide +kernel
theorem dL_law_936 : decode cL_law 936 = .ok (.iload_n 3, 1) := by decide +kernel
theorem dL_law_937 : decode cL_law 937 = .ok (.iconst 1, 1) := by decide +kernel
theorem dL_law_938 : decode cL_law 938 = .ok (.iadd, 1) := by decide +kernel
theorem dL_law_939 : decode cL_law 939 = .ok (.iaload, 1) := by decide +kernel
theorem dL_law_940 : decode cL_law 940 = .ok (.aload_n 0, 1) := by decide +kernel
theorem dL_law_941 : decode cL_law 941 = .ok (.iload_n 3, 1) := by decide +kernel
theorem dL_law_942 : decode cL_law 942 = .ok (.iconst 2, 1) := by decide +kernel
theorem dL_law_943 : decode cL_law 943 = .ok (.iadd, 1) := by decide +kernel
theorem dL_law_944 : decode cL_law 944 = .ok (.iaload, 1) := by decide +kernel
theorem dL_law_945 : decode cL_law 945 = .ok (.invokevirtual 108, 3) := by decide +kernel
theorem dL_law_948 : decode cL_law 948 = .ok (.aload_n 2, 1) := by decide +kernel
theorem dL_law_949 : decode cL_law 949 = .ok (.aload_n 0, 1) := by decide +kernel
theorem dL_law_950 : decode cL_law 950 = .ok (.iload_n 3, 1) := by decide +kernel
theorem dL_law_951 : decode cL_law 951 = .ok (.iconst 1, 1) := by decide +kernel
theorem dL_law_952 : decode cL_law 952 = .ok (.iadd, 1) := by decide +kernel
theorem dL_law_953 : decode cL_law 953 = .ok (.iaload, 1) := by decide +kernel
theorem dL_law_954 : decode cL_law 954 = .ok (.aload_n 0, 1) := by decide +kernel
theorem dL_law_955 : decode cL_law 955 = .ok (.iload_n 3, 1) := by decide +kernel
theorem dL_law_956 : decode cL_law 956 = .ok (.iconst 2, 1) := by decide +kernel
theorem dL_law_957 : decode cL_law 957 = .ok (.iadd, 1) := by decide +kernel
theorem dL_law_958 : decode cL_law 958 = .ok (.iaload, 1) := by decide +kernel
theorem dL_law_959 : decode cL_law 959 = .ok (.invokevirtual 111, 3) := by decide +kernel
theorem dL_law_962 : decode cL_law 962 = .ok (.if_icmp .eq 496, 3) := by decide +kernel
theorem dL_law_965 : decode cL_law 965 = .ok (.iconst 0, 1) := by decide +kernel
theorem dL_law_966 : decode cL_law 966 = .ok (.ireturn, 1) := by decide +kernel
theorem dL_law_967 : decode cL_law 967 = .ok (.aload_n 1, 1) := by decide +kernel
theorem dL_law_968 : decode cL_law 968 = .ok (.aload_n 0, 1) := by decide +kernel
theorem dL_law_969 : decode cL_law 969 = .ok (.iload_n 3, 1) := by decide +kernel
theorem dL_law_970 : decode cL_law 970 = .ok (.iconst 1, 1) := by decide +kernel
theorem dL_law_971 : decode cL_law 971 = .ok (.iadd, 1) := by decide +kernel
theorem dL_law_972 : decode cL_law 972 = .ok (.iaload, 1) := by decide +kernel
theorem dL_law_973 : decode cL_law 973 = .ok (.invokevirtual 112, 3) := by decide +kernel
theorem dL_law_976 : decode cL_law 976 = .ok (.aload_n 2, 1) := by decide +kernel
theorem dL_law_977 : decode cL_law 977 = .ok (.aload_n 0, 1) := by decide +kernel
theorem dL_law_978 : decode cL_law 978 = .ok (.iload_n 3, 1) := by decide +kernel
theorem dL_law_979 : decode cL_law 979 = .ok (.iconst 1, 1) := by decide +kernel
theorem dL_law_980 : decode cL_law 980 = .ok (.iadd, 1) := by decide +kernel
theorem dL_law_981 : decode cL_law 981 = .ok (.iaload, 1) := by decide +kernel
theorem dL_law_982 : decode cL_law 982 = .ok (.invokevirtual 115, 3) := by decide +kernel
theorem dL_law_985 : decode cL_law 985 = .ok (.if_icmp .eq 473, 3) := by decide +kernel
theorem dL_law_988 : decode cL_law 988 = .ok (.iconst 0, 1) := by decide +kernel
theorem dL_law_989 : decode cL_law 989 = .ok (.ireturn, 1) := by decide +kernel
theorem dL_law_990 : decode cL_law 990 = .ok (.aload_n 1, 1) := by decide +kernel
theorem dL_law_991 : decode cL_law 991 = .ok (.aload_n 0, 1) := by decide +kernel
theorem dL_law_992 : decode cL_law 992 = .ok (.iload_n 3, 1) := by decide +kernel
theorem dL_law_993 : decode cL_law 993 = .ok (.iconst 1, 1) := by decide +kernel
theorem dL_law_994 : decode cL_law 994 = .ok (.iadd, 1) := by decide +kernel
theorem dL_law_995 : decode cL_law 995 = .ok (.iaload, 1) := by decide +kernel
theorem dL_law_996 : decode cL_law 996 = .ok (.invokevirtual 116, 3) := by decide +kernel
theorem dL_law_999 : decode cL_law 999 = .ok (.aload_n 2, 1) := by decide +kernel
theorem dL_law_1000 : decode cL_law 1000 = .ok (.aload_n 0, 1) := by decide +kernel
theorem dL_law_1001 : decode cL_law 1001 = .ok (.iload_n 3, 1) := by decide +kernel
theorem dL_law_1002 : decode cL_law 1002 = .ok (.iconst 1, 1) := by decide +kernel
theorem dL_law_1003 : decode cL_law 1003 = .ok (.iadd, 1) := by decide +kernel
theorem dL_law_1004 : decode cL_law 1004 = .ok (.iaload, 1) := by decide +kernel
theorem dL_law_1005 : decode cL_law 1005 = .ok (.invokevirtual 119, 3) := by decide +kernel
theorem dL_law_1008 : decode cL_law 1008 = .ok (.if_icmp .eq 450, 3) := by decide +kernel
theorem dL_law_1011 : decode cL_law 1011 = .ok (.iconst 0, 1) := by decide +kernel
theorem dL_law_1012 : decode cL_law 1012 = .ok (.ireturn, 1) := by decide +kernel
theorem dL_law_1013 : decode cL_law 1013 = .ok (.aload_n 1, 1) := by decide +kernel
theorem dL_law_1014 : decode cL_law 1014 = .ok (.aload_n 0, 1) := by decide +kernel
theorem dL_law_1015 : decode cL_law 1015 = .ok (.iload_n 3, 1) := by decide +kernel
theorem dL_law_1016 : decode cL_law 1016 = .ok (.iconst 1, 1) := by decide +kernel
theorem dL_law_1017 : decode cL_law 1017 = .ok (.iadd, 1) := by decide +kernel
theorem dL_law_1018 : decode cL_law 1018 = .ok (.iaload, 1) := by decide +kernel
theorem dL_law_1019 : decode cL_law 1019 = .ok (.aload_n 0, 1) := by decide +kernel
theorem dL_law_1020 : decode cL_law 1020 = .ok (.iload_n 3, 1) := by decide +kernel
theorem dL_law_1021 : decode cL_law 1021 = .ok (.iconst 2, 1) := by decide +kernel
theorem dL_law_1022 : decode cL_law 1022 = .ok (.iadd, 1) := by decide +kernel
theorem dL_law_1023 : decode cL_law 1023 = .ok (.iaload, 1) := by decide +kernel
theorem dL_law_1024 : decode cL_law 1024 = .ok (.invokevirtual 120, 3) := by decide +kernel
theorem dL_law_1027 : decode cL_law 1027 = .ok (.aload_n 2, 1) := by decide +kernel
theorem dL_law_1028 : decode cL_law 1028 = .ok (.aload_n 0, 1) := by decide +kernel
theorem dL_law_1029 : decode cL_law 1029 = .ok (.iload_n 3, 1) := by decide +kernel
theorem dL_law_1030 : decode cL_law 1030 = .ok (.iconst 1, 1) := by decide +kernel
theorem dL_law_1031 : decode cL_law 1031 = .ok (.iadd, 1) := by decide +kernel
theorem dL_law_1032 : decode cL_law 1032 = .ok (.iaload, 1) := by decide +kernel
theorem dL_law_1033 : decode cL_law 1033 = .ok (.aload_n 0, 1) := by decide +kernel
theorem dL_law_1034 : decode cL_law 1034 = .ok (.iload_n 3, 1) := by decide +kernel
theorem dL_law_1035 : decode cL_law 1035 = .ok (.iconst 2, 1) := by decide +kernel
theorem dL_law_1036 : decode cL_law 1036 = .ok (.iadd, 1) := by decide +kernel
theorem dL_law_1037 : decode cL_law 1037 = .ok (.iaload, 1) := by decide +kernel
theorem dL_law_1038 : decode cL_law 1038 = .ok (.invokevirtual 123, 3) := by decide +kernel
theorem dL_law_1041 : decode cL_law 1041 = .ok (.if_icmp .eq 417, 3) := by decide +kernel
theorem dL_law_1044 : decode cL_law 1044 = .ok (.iconst 0, 1) := by decide +kernel
theorem dL_law_1045 : decode cL_law 1045 = .ok (.ireturn, 1) := by decide +kernel
theorem dL_law_1046 : decode cL_law 1046 = .ok (.aload_n 1, 1) := by decide +kernel
theorem dL_law_1047 : decode cL_law 1047 = .ok (.aload_n 0, 1) := by decide +kernel
theorem dL_law_1048 : decode cL_law 1048 = .ok (.iload_n 3, 1) := by decide +kernel
theorem dL_law_1049 : decode cL_law 1049 = .ok (.iconst 1, 1) := by decide +kernel
theorem dL_law_1050 : decode cL_law 1050 = .ok (.iadd, 1) := by decide +kernel
theorem dL_law_1051 : decode cL_law 1051 = .ok (.iaload, 1) := by decide +kernel
theorem dL_law_1052 : decode cL_law 1052 = .ok (.aload_n 0, 1) := by decide +kernel
theorem dL_law_1053 : decode cL_law 1053 = .ok (.iload_n 3, 1) := by decide +kernel
theorem dL_law_1054 : decode cL_law 1054 = .ok (.iconst 2, 1) := by decide +kernel
theorem dL_law_1055 : decode cL_law 1055 = .ok (.iadd, 1) := by decide +kernel
theorem dL_law_1056 : decode cL_law 1056 = .ok (.iaload, 1) := by decide +kernel
theorem dL_law_1057 : decode cL_law 1057 = .ok (.aload_n 0, 1) := by decide +kernel
theorem dL_law_1058 : decode cL_law 1058 = .ok (.iload_n 3, 1) := by decide +kernel
theorem dL_law_1059 : decode cL_law 1059 = .ok (.iconst 3, 1) := by decide +kernel
theorem dL_law_1060 : decode cL_law 1060 = .ok (.iadd, 1) := by decide +kernel
theorem dL_law_1061 : decode cL_law 1061 = .ok (.iaload, 1) := by decide +kernel
theorem dL_law_1062 : decode cL_law 1062 = .ok (.invokevirtual 124, 3) := by decide +kernel
theorem dL_law_1065 : decode cL_law 1065 = .ok (.aload_n 2, 1) := by decide +kernel
theorem dL_law_1066 : decode cL_law 1066 = .ok (.aload_n 0, 1) := by decide +kernel
theorem dL_law_1067 : decode cL_law 1067 = .ok (.iload_n 3, 1) := by decide +kernel
theorem dL_law_1068 : decode cL_law 1068 = .ok (.iconst 1, 1) := by decide +kernel
theorem dL_law_1069 : decode cL_law 1069 = .ok (.iadd, 1) := by decide +kernel
theorem dL_law_1070 : decode cL_law 1070 = .ok (.iaload, 1) := by decide +kernel
theorem dL_law_1071 : decode cL_law 1071 = .ok (.aload_n 0, 1) := by decide +kernel
theorem dL_law_1072 : decode cL_law 1072 = .ok (.iload_n 3, 1) := by decide +kernel
theorem dL_law_1073 : decode cL_law 1073 = .ok (.iconst 2, 1) := by decide +kernel
theorem dL_law_1074 : decode cL_law 1074 = .ok (.iadd, 1) := by decide +kernel
theorem dL_law_1075 : decode cL_law 1075 = .ok (.iaload, 1) := by decide +kernel
theorem dL_law_1076 : decode cL_law 1076 = .ok (.aload_n 0, 1) := by decide +kernel
theorem dL_law_1077 : decode cL_law 1077 = .ok (.iload_n 3, 1) := by decide +kernel
theorem dL_law_1078 : decode cL_law 1078 = .ok (.iconst 3, 1) := by decide +kernel
theorem dL_law_1079 : decode cL_law 1079 = .ok (.iadd, 1) := by decide +kernel
theorem dL_law_1080 : decode cL_law 1080 = .ok (.iaload, 1) := by decide +kernel
theorem dL_law_1081 : decode cL_law 1081 = .ok (.invokevirtual 127, 3) := by decide +kernel
theorem dL_law_1084 : decode cL_law 1084 = .ok (.if_icmp .eq 374, 3) := by decide +kernel
theorem dL_law_1087 : decode cL_law 1087 = .ok (.iconst 0, 1) := by decide +kernel
theorem dL_law_1088 : decode cL_law 1088 = .ok (.ireturn, 1) := by decide +kernel
theorem dL_law_1089 : decode cL_law 1089 = .ok (.aload_n 1, 1) := by decide +kernel
theorem dL_law_1090 : decode cL_law 1090 = .ok (.aload_n 0, 1) := by decide +kernel
theorem dL_law_1091 : decode cL_law 1091 = .ok (.iload_n 3, 1) := by decide +kernel
theorem dL_law_1092 : decode cL_law 1092 = .ok (.iconst 1, 1) := by decide +kernel
theorem dL_law_1093 : decode cL_law 1093 = .ok (.iadd, 1) := by decide +kernel
theorem dL_law_1094 : decode cL_law 1094 = .ok (.iaload, 1) := by decide +kernel
theorem dL_law_1095 : decode cL_law 1095 = .ok (.aload_n 0, 1) := by decide +kernel
theorem dL_law_1096 : decode cL_law 1096 = .ok (.iload_n 3, 1) := by decide +kernel
theorem dL_law_1097 : decode cL_law 1097 = .ok (.iconst 2, 1) := by decide +kernel
theorem dL_law_1098 : decode cL_law 1098 = .ok (.iadd, 1) := by decide +kernel
theorem dL_law_1099 : decode cL_law 1099 = .ok (.iaload, 1) := by decide +kernel
theorem dL_law_1100 : decode cL_law 1100 = .ok (.aload_n 0, 1) := by decide +kernel
theorem dL_law_1101 : decode cL_law 1101 = .ok (.iload_n 3, 1) := by decide +kernel
theorem dL_law_1102 : decode cL_law 1102 = .ok (.iconst 3, 1) := by decide +kernel
theorem dL_law_1103 : decode cL_law 1103 = .ok (.iadd, 1) := by decide +kernel
theorem dL_law_1104 : decode cL_law 1104 = .ok (.iaload, 1) := by decide +kernel
theorem dL_law_1105 : decode cL_law 1105 = .ok (.invokevirtual 128, 3) := by decide +kernel
theorem dL_law_1108 : decode cL_law 1108 = .ok (.aload_n 2, 1) := by decide +kernel
theorem dL_law_1109 : decode cL_law 1109 = .ok (.aload_n 0, 1) := by decide +kernel
theorem dL_law_1110 : decode cL_law 1110 = .ok (.iload_n 3, 1) := by decide +kernel
theorem dL_law_1111 : decode cL_law 1111 = .ok (.iconst 1, 1) := by decide +kernel
theorem dL_law_1112 : decode cL_law 1112 = .ok (.iadd, 1) := by decide +kernel
theorem dL_law_1113 : decode cL_law 1113 = .ok (.iaload, 1) := by decide +kernel
theorem dL_law_1114 : decode cL_law 1114 = .ok (.aload_n 0, 1) := by decide +kernel
theorem dL_law_1115 : decode cL_law 1115 = .ok (.iload_n 3, 1) := by decide +kernel
theorem dL_law_1116 : decode cL_law 1116 = .ok (.iconst 2, 1) := by decide +kernel
theorem dL_law_1117 : decode cL_law 1117 = .ok (.iadd, 1) := by decide +kernel
theorem dL_law_1118 : decode cL_law 1118 = .ok (.iaload, 1) := by decide +kernel
theorem dL_law_1119 : decode cL_law 1119 = .ok (.aload_n 0, 1) := by decide +kernel
theorem dL_law_1120 : decode cL_law 1120 = .ok (.iload_n 3, 1) := by decide +kernel
theorem dL_law_1121 : decode cL_law 1121 = .ok (.iconst 3, 1) := by decide +kernel
theorem dL_law_1122 : decode cL_law 1122 = .ok (.iadd, 1) := by decide +kernel
theorem dL_law_1123 : decode cL_law 1123 = .ok (.iaload, 1) := by decide +kernel
theorem dL_law_1124 : decode cL_law 1124 = .ok (.invokevirtual 131, 3) := by decide +kernel
theorem dL_law_1127 : decode cL_law 1127 = .ok (.if_icmp .eq 331, 3) := by decide +kernel
theorem dL_law_1130 : decode cL_law 1130 = .ok (.iconst 0, 1) := by decide +kernel
theorem dL_law_1131 : decode cL_law 1131 = .ok (.ireturn, 1) := by decide +kernel
theorem dL_law_1132 : decode cL_law 1132 = .ok (.aload_n 1, 1) := by decide +kernel
theorem dL_law_1133 : decode cL_law 1133 = .ok (.aload_n 0, 1) := by decide +kernel
theorem dL_law_1134 : decode cL_law 1134 = .ok (.iload_n 3, 1) := by decide +kernel
theorem dL_law_1135 : decode cL_law 1135 = .ok (.iconst 1, 1) := by decide +kernel
theorem dL_law_1136 : decode cL_law 1136 = .ok (.iadd, 1) := by decide +kernel
theorem dL_law_1137 : decode cL_law 1137 = .ok (.iaload, 1) := by decide +kernel
theorem dL_law_1138 : decode cL_law 1138 = .ok (.invokevirtual 132, 3) := by decide +kernel
theorem dL_law_1141 : decode cL_law 1141 = .ok (.aload_n 2, 1) := by decide +kernel
theorem dL_law_1142 : decode cL_law 1142 = .ok (.aload_n 0, 1) := by decide +kernel
theorem dL_law_1143 : decode cL_law 1143 = .ok (.iload_n 3, 1) := by decide +kernel
theorem dL_law_1144 : decode cL_law 1144 = .ok (.iconst 1, 1) := by decide +kernel
theorem dL_law_1145 : decode cL_law 1145 = .ok (.iadd, 1) := by decide +kernel
theorem dL_law_1146 : decode cL_law 1146 = .ok (.iaload, 1) := by decide +kernel
theorem dL_law_1147 : decode cL_law 1147 = .ok (.invokevirtual 135, 3) := by decide +kernel
theorem dL_law_1150 : decode cL_law 1150 = .ok (.if_icmp .eq 308, 3) := by decide +kernel
theorem dL_law_1153 : decode cL_law 1153 = .ok (.iconst 0, 1) := by decide +kernel
theorem dL_law_1154 : decode cL_law 1154 = .ok (.ireturn, 1) := by decide +kernel
theorem dL_law_1155 : decode cL_law 1155 = .ok (.aload_n 1, 1) := by decide +kernel
theorem dL_law_1156 : decode cL_law 1156 = .ok (.aload_n 0, 1) := by decide +kernel
theorem dL_law_1157 : decode cL_law 1157 = .ok (.iload_n 3, 1) := by decide +kernel
theorem dL_law_1158 : decode cL_law 1158 = .ok (.iconst 1, 1) := by decide +kernel
theorem dL_law_1159 : decode cL_law 1159 = .ok (.iadd, 1) := by decide +kernel
theorem dL_law_1160 : decode cL_law 1160 = .ok (.iaload, 1) := by decide +kernel
theorem dL_law_1161 : decode cL_law 1161 = .ok (.aload_n 0, 1) := by decide +kernel
theorem dL_law_1162 : decode cL_law 1162 = .ok (.iload_n 3, 1) := by decide +kernel
theorem dL_law_1163 : decode cL_law 1163 = .ok (.iconst 2, 1) := by decide +kernel
theorem dL_law_1164 : decode cL_law 1164 = .ok (.iadd, 1) := by decide +kernel
theorem dL_law_1165 : decode cL_law 1165 = .ok (.iaload, 1) := by decide +kernel
theorem dL_law_1166 : decode cL_law 1166 = .ok (.aload_n 0, 1) := by decide +kernel
theorem dL_law_1167 : decode cL_law 1167 = .ok (.iload_n 3, 1) := by decide +kernel
theorem dL_law_1168 : decode cL_law 1168 = .ok (.iconst 3, 1) := by decide +kernel
theorem dL_law_1169 : decode cL_law 1169 = .ok (.iadd, 1) := by decide +kernel
theorem dL_law_1170 : decode cL_law 1170 = .ok (.iaload, 1) := by decide +kernel
theorem dL_law_1171 : decode cL_law 1171 = .ok (.invokevirtual 136, 3) := by decide +kernel
theorem dL_law_1174 : decode cL_law 1174 = .ok (.aload_n 2, 1) := by decide +kernel
theorem dL_law_1175 : decode cL_law 1175 = .ok (.aload_n 0, 1) := by decide +kernel
theorem dL_law_1176 : decode cL_law 1176 = .ok (.iload_n 3, 1) := by decide +kernel
theorem dL_law_1177 : decode cL_law 1177 = .ok (.iconst 1, 1) := by decide +kernel
theorem dL_law_1178 : decode cL_law 1178 = .ok (.iadd, 1) := by decide +kernel
theorem dL_law_1179 : decode cL_law 1179 = .ok (.iaload, 1) := by decide +kernel
theorem dL_law_1180 : decode cL_law 1180 = .ok (.aload_n 0, 1) := by decide +kernel
theorem dL_law_1181 : decode cL_law 1181 = .ok (.iload_n 3, 1) := by decide +kernel
theorem dL_law_1182 : decode cL_law 1182 = .ok (.iconst 2, 1) := by decide +kernel
theorem dL_law_1183 : decode cL_law 1183 = .ok (.iadd, 1) := by decide +kernel
theorem dL_law_1184 : decode cL_law 1184 = .ok (.iaload, 1) := by decide +kernel
theorem dL_law_1185 : decode cL_law 1185 = .ok (.aload_n 0, 1) := by decide +kernel
theorem dL_law_1186 : decode cL_law 1186 = .ok (.iload_n 3, 1) := by decide +kernel
theorem dL_law_1187 : decode cL_law 1187 = .ok (.iconst 3, 1) := by decide +kernel
theorem dL_law_1188 : decode cL_law 1188 = .ok (.iadd, 1) := by decide +kernel
theorem dL_law_1189 : decode cL_law 1189 = .ok (.iaload, 1) := by decide +kernel
theorem dL_law_1190 : decode cL_law 1190 = .ok (.invokevirtual 139, 3) := by decide +kernel
theorem dL_law_1193 : decode cL_law 1193 = .ok (.if_icmp .eq 265, 3) := by decide +kernel
theorem dL_law_1196 : decode cL_law 1196 = .ok (.iconst 0, 1) := by decide +kernel
theorem dL_law_1197 : decode cL_law 1197 = .ok (.ireturn, 1) := by decide +kernel
theorem dL_law_1198 : decode cL_law 1198 = .ok (.aload_n 1, 1) := by decide +kernel
theorem dL_law_1199 : decode cL_law 1199 = .ok (.aload_n 0, 1) := by decide +kernel
theorem dL_law_1200 : decode cL_law 1200 = .ok (.iload_n 3, 1) := by decide +kernel
theorem dL_law_1201 : decode cL_law 1201 = .ok (.iconst 1, 1) := by decide +kernel
theorem dL_law_1202 : decode cL_law 1202 = .ok (.iadd, 1) := by decide +kernel
theorem dL_law_1203 : decode cL_law 1203 = .ok (.iaload, 1) := by decide +kernel
theorem dL_law_1204 : decode cL_law 1204 = .ok (.aload_n 0, 1) := by decide +kernel
theorem dL_law_1205 : decode cL_law 1205 = .ok (.iload_n 3, 1) := by decide +kernel
theorem dL_law_1206 : decode cL_law 1206 = .ok (.iconst 2, 1) := by decide +kernel
theorem dL_law_1207 : decode cL_law 1207 = .ok (.iadd, 1) := by decide +kernel
theorem dL_law_1208 : decode cL_law 1208 = .ok (.iaload, 1) := by decide +kernel
theorem dL_law_1209 : decode cL_law 1209 = .ok (.aload_n 0, 1) := by decide +kernel
theorem dL_law_1210 : decode cL_law 1210 = .ok (.iload_n 3, 1) := by decide +kernel
theorem dL_law_1211 : decode cL_law 1211 = .ok (.iconst 3, 1) := by decide +kernel
theorem dL_law_1212 : decode cL_law 1212 = .ok (.iadd, 1) := by decide +kernel
theorem dL_law_1213 : decode cL_law 1213 = .ok (.iaload, 1) := by decide +kernel
theorem dL_law_1214 : decode cL_law 1214 = .ok (.invokevirtual 140, 3) := by decide +kernel
theorem dL_law_1217 : decode cL_law 1217 = .ok (.aload_n 2, 1) := by decide +kernel
theorem dL_law_1218 : decode cL_law 1218 = .ok (.aload_n 0, 1) := by decide +kernel
theorem dL_law_1219 : decode cL_law 1219 = .ok (.iload_n 3, 1) := by decide +kernel
theorem dL_law_1220 : decode cL_law 1220 = .ok (.iconst 1, 1) := by decide +kernel
theorem dL_law_1221 : decode cL_law 1221 = .ok (.iadd, 1) := by decide +kernel
theorem dL_law_1222 : decode cL_law 1222 = .ok (.iaload, 1) := by decide +kernel
theorem dL_law_1223 : decode cL_law 1223 = .ok (.aload_n 0, 1) := by decide +kernel
theorem dL_law_1224 : decode cL_law 1224 = .ok (.iload_n 3, 1) := by decide +kernel
theorem dL_law_1225 : decode cL_law 1225 = .ok (.iconst 2, 1) := by decide +kernel
theorem dL_law_1226 : decode cL_law 1226 = .ok (.iadd, 1) := by decide +kernel
theorem dL_law_1227 : decode cL_law 1227 = .ok (.iaload, 1) := by decide +kernel
theorem dL_law_1228 : decode cL_law 1228 = .ok (.aload_n 0, 1) := by decide +kernel
theorem dL_law_1229 : decode cL_law 1229 = .ok (.iload_n 3, 1) := by decide +kernel
theorem dL_law_1230 : decode cL_law 1230 = .ok (.iconst 3, 1) := by decide +kernel
theorem dL_law_1231 : decode cL_law 1231 = .ok (.iadd, 1) := by decide +kernel
theorem dL_law_1232 : decode cL_law 1232 = .ok (.iaload, 1) := by decide +kernel
theorem dL_law_1233 : decode cL_law 1233 = .ok (.invokevirtual 143, 3) := by decide +kernel
theorem dL_law_1236 : decode cL_law 1236 = .ok (.if_icmp .eq 222, 3) := by decide +kernel
theorem dL_law_1239 : decode cL_law 1239 = .ok (.iconst 0, 1) := by decide +kernel
theorem dL_law_1240 : decode cL_law 1240 = .ok (.ireturn, 1) := by decide +kernel
theorem dL_law_1241 : decode cL_law 1241 = .ok (.aload_n 1, 1) := by decide +kernel
theorem dL_law_1242 : decode cL_law 1242 = .ok (.aload_n 0, 1) := by decide +kernel
theorem dL_law_1243 : decode cL_law 1243 = .ok (.iload_n 3, 1) := by decide +kernel
theorem dL_law_1244 : decode cL_law 1244 = .ok (.iconst 1, 1) := by decide +kernel
theorem dL_law_1245 : decode cL_law 1245 = .ok (.iadd, 1) := by decide +kernel
theorem dL_law_1246 : decode cL_law 1246 = .ok (.iaload, 1) := by decide +kernel
theorem dL_law_1247 : decode cL_law 1247 = .ok (.aload_n 0, 1) := by decide +kernel
theorem dL_law_1248 : decode cL_law 1248 = .ok (.iload_n 3, 1) := by decide +kernel
theorem dL_law_1249 : decode cL_law 1249 = .ok (.iconst 2, 1) := by decide +kernel
theorem dL_law_1250 : decode cL_law 1250 = .ok (.iadd, 1) := by decide +kernel
theorem dL_law_1251 : decode cL_law 1251 = .ok (.iaload, 1) := by decide +kernel
theorem dL_law_1252 : decode cL_law 1252 = .ok (.aload_n 0, 1) := by decide +kernel
theorem dL_law_1253 : decode cL_law 1253 = .ok (.iload_n 3, 1) := by decide +kernel
theorem dL_law_1254 : decode cL_law 1254 = .ok (.iconst 3, 1) := by decide +kernel
theorem dL_law_1255 : decode cL_law 1255 = .ok (.iadd, 1) := by decide +kernel
theorem dL_law_1256 : decode cL_law 1256 = .ok (.iaload, 1) := by decide +kernel
theorem dL_law_1257 : decode cL_law 1257 = .ok (.aload_n 0, 1) := by decide +kernel
theorem dL_law_1258 : decode cL_law 1258 = .ok (.iload_n 3, 1) := by decide +kernel
theorem dL_law_1259 : decode cL_law 1259 = .ok (.iconst 4, 1) := by decide +kernel
theorem dL_law_1260 : decode cL_law 1260 = .ok (.iadd, 1) := by decide +kernel
theorem dL_law_1261 : decode cL_law 1261 = .ok (.iaload, 1) := by decide +kernel
theorem dL_law_1262 : decode cL_law 1262 = .ok (.aload_n 0, 1) := by decide +kernel
theorem dL_law_1263 : decode cL_law 1263 = .ok (.iload_n 3, 1) := by decide +kernel
theorem dL_law_1264 : decode cL_law 1264 = .ok (.iconst 5, 1) := by decide +kernel
theorem dL_law_1265 : decode cL_law 1265 = .ok (.iadd, 1) := by decide +kernel
theorem dL_law_1266 : decode cL_law 1266 = .ok (.iaload, 1) := by decide +kernel
theorem dL_law_1267 : decode cL_law 1267 = .ok (.invokevirtual 144, 3) := by decide +kernel
theorem dL_law_1270 : decode cL_law 1270 = .ok (.aload_n 2, 1) := by decide +kernel
theorem dL_law_1271 : decode cL_law 1271 = .ok (.aload_n 0, 1) := by decide +kernel
theorem dL_law_1272 : decode cL_law 1272 = .ok (.iload_n 3, 1) := by decide +kernel
theorem dL_law_1273 : decode cL_law 1273 = .ok (.iconst 1, 1) := by decide +kernel
theorem dL_law_1274 : decode cL_law 1274 = .ok (.iadd, 1) := by decide +kernel
theorem dL_law_1275 : decode cL_law 1275 = .ok (.iaload, 1) := by decide +kernel
theorem dL_law_1276 : decode cL_law 1276 = .ok (.aload_n 0, 1) := by decide +kernel
theorem dL_law_1277 : decode cL_law 1277 = .ok (.iload_n 3, 1) := by decide +kernel
theorem dL_law_1278 : decode cL_law 1278 = .ok (.iconst 2, 1) := by decide +kernel
theorem dL_law_1279 : decode cL_law 1279 = .ok (.iadd, 1) := by decide +kernel
theorem dL_law_1280 : decode cL_law 1280 = .ok (.iaload, 1) := by decide +kernel
theorem dL_law_1281 : decode cL_law 1281 = .ok (.aload_n 0, 1) := by decide +kernel
theorem dL_law_1282 : decode cL_law 1282 = .ok (.iload_n 3, 1) := by decide +kernel
theorem dL_law_1283 : decode cL_law 1283 = .ok (.iconst 3, 1) := by decide +kernel
theorem dL_law_1284 : decode cL_law 1284 = .ok (.iadd, 1) := by decide +kernel
theorem dL_law_1285 : decode cL_law 1285 = .ok (.iaload, 1) := by decide +kernel
theorem dL_law_1286 : decode cL_law 1286 = .ok (.aload_n 0, 1) := by decide +kernel
theorem dL_law_1287 : decode cL_law 1287 = .ok (.iload_n 3, 1) := by decide +kernel
theorem dL_law_1288 : decode cL_law 1288 = .ok (.iconst 4, 1) := by decide +kernel
theorem dL_law_1289 : decode cL_law 1289 = .ok (.iadd, 1) := by decide +kernel
theorem dL_law_1290 : decode cL_law 1290 = .ok (.iaload, 1) := by decide +kernel
theorem dL_law_1291 : decode cL_law 1291 = .ok (.aload_n 0, 1) := by decide +kernel
theorem dL_law_1292 : decode cL_law 1292 = .ok (.iload_n 3, 1) := by decide +kernel
theorem dL_law_1293 : decode cL_law 1293 = .ok (.iconst 5, 1) := by decide +kernel
theorem dL_law_1294 : decode cL_law 1294 = .ok (.iadd, 1) := by decide +kernel
theorem dL_law_1295 : decode cL_law 1295 = .ok (.iaload, 1) := by decide +kernel
theorem dL_law_1296 : decode cL_law 1296 = .ok (.invokevirtual 148, 3) := by decide +kernel
theorem dL_law_1299 : decode cL_law 1299 = .ok (.if_icmp .eq 159, 3) := by decide +kernel
theorem dL_law_1302 : decode cL_law 1302 = .ok (.iconst 0, 1) := by decide +kernel
theorem dL_law_1303 : decode cL_law 1303 = .ok (.ireturn, 1) := by decide +kernel
theorem dL_law_1304 : decode cL_law 1304 = .ok (.aload_n 1, 1) := by decide +kernel
theorem dL_law_1305 : decode cL_law 1305 = .ok (.aload_n 0, 1) := by decide +kernel
theorem dL_law_1306 : decode cL_law 1306 = .ok (.iload_n 3, 1) := by decide +kernel
theorem dL_law_1307 : decode cL_law 1307 = .ok (.iconst 1, 1) := by decide +kernel
theorem dL_law_1308 : decode cL_law 1308 = .ok (.iadd, 1) := by decide +kernel
theorem dL_law_1309 : decode cL_law 1309 = .ok (.iaload, 1) := by decide +kernel
theorem dL_law_1310 : decode cL_law 1310 = .ok (.invokevirtual 149, 3) := by decide +kernel
theorem dL_law_1313 : decode cL_law 1313 = .ok (.aload_n 2, 1) := by decide +kernel
theorem dL_law_1314 : decode cL_law 1314 = .ok (.aload_n 0, 1) := by decide +kernel
theorem dL_law_1315 : decode cL_law 1315 = .ok (.iload_n 3, 1) := by decide +kernel
theorem dL_law_1316 : decode cL_law 1316 = .ok (.iconst 1, 1) := by decide +kernel
theorem dL_law_1317 : decode cL_law 1317 = .ok (.iadd, 1) := by decide +kernel
theorem dL_law_1318 : decode cL_law 1318 = .ok (.iaload, 1) := by decide +kernel
theorem dL_law_1319 : decode cL_law 1319 = .ok (.invokevirtual 152, 3) := by decide +kernel
theorem dL_law_1322 : decode cL_law 1322 = .ok (.if_icmp .eq 136, 3) := by decide +kernel
theorem dL_law_1325 : decode cL_law 1325 = .ok (.iconst 0, 1) := by decide +kernel
theorem dL_law_1326 : decode cL_law 1326 = .ok (.ireturn, 1) := by decide +kernel
theorem dL_law_1327 : decode cL_law 1327 = .ok (.aload_n 1, 1) := by decide +kernel
theorem dL_law_1328 : decode cL_law 1328 = .ok (.aload_n 0, 1) := by decide +kernel
theorem dL_law_1329 : decode cL_law 1329 = .ok (.iload_n 3, 1) := by decide +kernel
theorem dL_law_1330 : decode cL_law 1330 = .ok (.iconst 1, 1) := by decide +kernel
theorem dL_law_1331 : decode cL_law 1331 = .ok (.iadd, 1) := by decide +kernel
theorem dL_law_1332 : decode cL_law 1332 = .ok (.iaload, 1) := by decide +kernel
theorem dL_law_1333 : decode cL_law 1333 = .ok (.invokevirtual 153, 3) := by decide +kernel
theorem dL_law_1336 : decode cL_law 1336 = .ok (.aload_n 2, 1) := by decide +kernel
theorem dL_law_1337 : decode cL_law 1337 = .ok (.aload_n 0, 1) := by decide +kernel
theorem dL_law_1338 : decode cL_law 1338 = .ok (.iload_n 3, 1) := by decide +kernel
theorem dL_law_1339 : decode cL_law 1339 = .ok (.iconst 1, 1) := by decide +kernel
theorem dL_law_1340 : decode cL_law 1340 = .ok (.iadd, 1) := by decide +kernel
theorem dL_law_1341 : decode cL_law 1341 = .ok (.iaload, 1) := by decide +kernel
theorem dL_law_1342 : decode cL_law 1342 = .ok (.invokevirtual 156, 3) := by decide +kernel
theorem dL_law_1345 : decode cL_law 1345 = .ok (.if_icmp .eq 113, 3) := by decide +kernel
theorem dL_law_1348 : decode cL_law 1348 = .ok (.iconst 0, 1) := by decide +kernel
theorem dL_law_1349 : decode cL_law 1349 = .ok (.ireturn, 1) := by decide +kernel
theorem dL_law_1350 : decode cL_law 1350 = .ok (.aload_n 1, 1) := by decide +kernel
theorem dL_law_1351 : decode cL_law 1351 = .ok (.invokevirtual 157, 3) := by decide +kernel
theorem dL_law_1354 : decode cL_law 1354 = .ok (.aload_n 2, 1) := by decide +kernel
theorem dL_law_1355 : decode cL_law 1355 = .ok (.invokevirtual 161, 3) := by decide +kernel
theorem dL_law_1358 : decode cL_law 1358 = .ok (.if_icmp .eq 100, 3) := by decide +kernel
theorem dL_law_1361 : decode cL_law 1361 = .ok (.iconst 0, 1) := by decide +kernel
theorem dL_law_1362 : decode cL_law 1362 = .ok (.ireturn, 1) := by decide +kernel
theorem dL_law_1363 : decode cL_law 1363 = .ok (.aload_n 1, 1) := by decide +kernel
theorem dL_law_1364 : decode cL_law 1364 = .ok (.invokevirtual 162, 3) := by decide +kernel
theorem dL_law_1367 : decode cL_law 1367 = .ok (.aload_n 2, 1) := by decide +kernel
theorem dL_law_1368 : decode cL_law 1368 = .ok (.invokevirtual 165, 3) := by decide +kernel
theorem dL_law_1371 : decode cL_law 1371 = .ok (.if_icmp .eq 87, 3) := by decide +kernel
theorem dL_law_1374 : decode cL_law 1374 = .ok (.iconst 0, 1) := by decide +kernel
theorem dL_law_1375 : decode cL_law 1375 = .ok (.ireturn, 1) := by decide +kernel
theorem dL_law_1376 : decode cL_law 1376 = .ok (.aload_n 1, 1) := by decide +kernel
theorem dL_law_1377 : decode cL_law 1377 = .ok (.aload_n 0, 1) := by decide +kernel
theorem dL_law_1378 : decode cL_law 1378 = .ok (.iload_n 3, 1) := by decide +kernel
theorem dL_law_1379 : decode cL_law 1379 = .ok (.iconst 1, 1) := by decide +kernel
theorem dL_law_1380 : decode cL_law 1380 = .ok (.iadd, 1) := by decide +kernel
theorem dL_law_1381 : decode cL_law 1381 = .ok (.iaload, 1) := by decide +kernel
theorem dL_law_1382 : decode cL_law 1382 = .ok (.invokevirtual 166, 3) := by decide +kernel
theorem dL_law_1385 : decode cL_law 1385 = .ok (.aload_n 2, 1) := by decide +kernel
theorem dL_law_1386 : decode cL_law 1386 = .ok (.aload_n 0, 1) := by decide +kernel
theorem dL_law_1387 : decode cL_law 1387 = .ok (.iload_n 3, 1) := by decide +kernel
theorem dL_law_1388 : decode cL_law 1388 = .ok (.iconst 1, 1) := by decide +kernel
theorem dL_law_1389 : decode cL_law 1389 = .ok (.iadd, 1) := by decide +kernel
theorem dL_law_1390 : decode cL_law 1390 = .ok (.iaload, 1) := by decide +kernel
theorem dL_law_1391 : decode cL_law 1391 = .ok (.invokevirtual 169, 3) := by decide +kernel
theorem dL_law_1394 : decode cL_law 1394 = .ok (.if_icmp .eq 64, 3) := by decide +kernel
theorem dL_law_1397 : decode cL_law 1397 = .ok (.iconst 0, 1) := by decide +kernel
theorem dL_law_1398 : decode cL_law 1398 = .ok (.ireturn, 1) := by decide +kernel
theorem dL_law_1399 : decode cL_law 1399 = .ok (.aload_n 1, 1) := by decide +kernel
theorem dL_law_1400 : decode cL_law 1400 = .ok (.invokevirtual 170, 3) := by decide +kernel
theorem dL_law_1403 : decode cL_law 1403 = .ok (.aload_n 2, 1) := by decide +kernel
theorem dL_law_1404 : decode cL_law 1404 = .ok (.invokevirtual 173, 3) := by decide +kernel
theorem dL_law_1407 : decode cL_law 1407 = .ok (.if_icmp .eq 51, 3) := by decide +kernel
theorem dL_law_1410 : decode cL_law 1410 = .ok (.iconst 0, 1) := by decide +kernel
theorem dL_law_1411 : decode cL_law 1411 = .ok (.ireturn, 1) := by decide +kernel
theorem dL_law_1412 : decode cL_law 1412 = .ok (.aload_n 1, 1) := by decide +kernel
theorem dL_law_1413 : decode cL_law 1413 = .ok (.aload_n 0, 1) := by decide +kernel
theorem dL_law_1414 : decode cL_law 1414 = .ok (.iload_n 3, 1) := by decide +kernel
theorem dL_law_1415 : decode cL_law 1415 = .ok (.iconst 1, 1) := by decide +kernel
theorem dL_law_1416 : decode cL_law 1416 = .ok (.iadd, 1) := by decide +kernel
theorem dL_law_1417 : decode cL_law 1417 = .ok (.iaload, 1) := by decide +kernel
theorem dL_law_1418 : decode cL_law 1418 = .ok (.invokevirtual 174, 3) := by decide +kernel
theorem dL_law_1421 : decode cL_law 1421 = .ok (.aload_n 2, 1) := by decide +kernel
theorem dL_law_1422 : decode cL_law 1422 = .ok (.aload_n 0, 1) := by decide +kernel
theorem dL_law_1423 : decode cL_law 1423 = .ok (.iload_n 3, 1) := by decide +kernel
theorem dL_law_1424 : decode cL_law 1424 = .ok (.iconst 1, 1) := by decide +kernel
theorem dL_law_1425 : decode cL_law 1425 = .ok (.iadd, 1) := by decide +kernel
theorem dL_law_1426 : decode cL_law 1426 = .ok (.iaload, 1) := by decide +kernel
theorem dL_law_1427 : decode cL_law 1427 = .ok (.invokevirtual 177, 3) := by decide +kernel
theorem dL_law_1430 : decode cL_law 1430 = .ok (.if_icmp .eq 28, 3) := by decide +kernel
theorem dL_law_1433 : decode cL_law 1433 = .ok (.iconst 0, 1) := by decide +kernel
theorem dL_law_1434 : decode cL_law 1434 = .ok (.ireturn, 1) := by decide +kernel
theorem dL_law_1435 : decode cL_law 1435 = .ok (.aload_n 1, 1) := by decide +kernel
theorem dL_law_1436 : decode cL_law 1436 = .ok (.aload_n 0, 1) := by decide +kernel
theorem dL_law_1437 : decode cL_law 1437 = .ok (.iload_n 3, 1) := by decide +kernel
theorem dL_law_1438 : decode cL_law 1438 = .ok (.iconst 1, 1) := by decide +kernel
theorem dL_law_1439 : decode cL_law 1439 = .ok (.iadd, 1) := by decide +kernel
theorem dL_law_1440 : decode cL_law 1440 = .ok (.iaload, 1) := by decide +kernel
theorem dL_law_1441 : decode cL_law 1441 = .ok (.invokevirtual 178, 3) := by decide +kernel
theorem dL_law_1444 : decode cL_law 1444 = .ok (.aload_n 2, 1) := by decide +kernel
theorem dL_law_1445 : decode cL_law 1445 = .ok (.aload_n 0, 1) := by decide +kernel
theorem dL_law_1446 : decode cL_law 1446 = .ok (.iload_n 3, 1) := by decide +kernel
theorem dL_law_1447 : decode cL_law 1447 = .ok (.iconst 1, 1) := by decide +kernel
theorem dL_law_1448 : decode cL_law 1448 = .ok (.iadd, 1) := by decide +kernel
theorem dL_law_1449 : decode cL_law 1449 = .ok (.iaload, 1) := by decide +kernel
theorem dL_law_1450 : decode cL_law 1450 = .ok (.invokevirtual 181, 3) := by decide +kernel
theorem dL_law_1453 : decode cL_law 1453 = .ok (.if_icmp .eq 5, 3) := by decide +kernel
theorem dL_law_1456 : decode cL_law 1456 = .ok (.iconst 0, 1) := by decide +kernel
theorem dL_law_1457 : decode cL_law 1457 = .ok (.ireturn, 1) := by decide +kernel
theorem dL_law_1458 : decode cL_law 1458 = .ok (.iinc 3 6, 3) := by decide +kernel
theorem dL_law_1461 : decode cL_law 1461 = .ok (.goto (-1443), 3) := by decide +kernel
theorem dL_law_1464 : decode cL_law 1464 = .ok (.iconst 1, 1) := by decide +kernel
theorem dL_law_1465 : decode cL_law 1465 = .ok (.ireturn, 1) := by decide +kernel
end
section
/-! every word of the tables, by its place -/
set_option maxRecDepth 100000 in
theorem m_good : ∀ w ∈ lw_tbl, goodWord w = true := by
  have h : lw_tbl.all goodWord = true := by decide +kernel
  exact fun w hw => List.all_eq_true.mp h w hw
theorem m_0 : Cond.selects RX9 yX9_fail yX9_fail ∈ lw_tbl := List.mem_of_getElem? (i := 0) (by decide +kernel)
theorem m_1 : Cond.selects RX1 yX1_measure yX1_measure ∈ lw_tbl := List.mem_of_getElem? (i := 1) (by decide +kernel)
theorem m_2 : Cond.selects RX1 yX1_link yX1_link ∈ lw_tbl := List.mem_of_getElem? (i := 2) (by decide +kernel)
theorem m_3 : Cond.selects RX1 yX1_shortenBy yX1_shortenBy ∈ lw_tbl := List.mem_of_getElem? (i := 3) (by decide +kernel)
theorem m_4 : Cond.selects RX3 yX3_readsLevel yX3_readsLevel ∈ lw_tbl := List.mem_of_getElem? (i := 4) (by decide +kernel)
theorem m_5 : Cond.selects RX3 yX3_readsUnit yX3_readsUnit ∈ lw_tbl := List.mem_of_getElem? (i := 5) (by decide +kernel)
theorem m_6 : Cond.selects RX3 yX3_readNumber yX3_readNumber ∈ lw_tbl := List.mem_of_getElem? (i := 6) (by decide +kernel)
theorem m_7 : Cond.selects RX3 yX3_readsDenied yX3_readsDenied ∈ lw_tbl := List.mem_of_getElem? (i := 7) (by decide +kernel)
theorem m_8 : Cond.selects RX3 yX3_readsClosed yX3_readsClosed ∈ lw_tbl := List.mem_of_getElem? (i := 8) (by decide +kernel)
theorem m_9 : Cond.selects RX8 yX8_passYear yX8_passYear ∈ lw_tbl := List.mem_of_getElem? (i := 9) (by decide +kernel)
theorem m_10 : Cond.selects RX8 yX8_draw yX8_draw ∈ lw_tbl := List.mem_of_getElem? (i := 10) (by decide +kernel)
theorem m_11 : Cond.selects RX1 yX1_byMarriage yX1_byMarriage ∈ lw_tbl := List.mem_of_getElem? (i := 11) (by decide +kernel)
theorem m_12 : Cond.selects RX8 yX8_wouldLet yX8_wouldLet ∈ lw_tbl := List.mem_of_getElem? (i := 12) (by decide +kernel)
theorem m_13 : Cond.selects RX7 yX7_spoken yX7_spoken ∈ lw_tbl := List.mem_of_getElem? (i := 13) (by decide +kernel)
theorem m_14 : Cond.selects RX7 yX7_worked yX7_worked ∈ lw_tbl := List.mem_of_getElem? (i := 14) (by decide +kernel)
theorem m_15 : Cond.selects RX7 yX7_own yX7_own ∈ lw_tbl := List.mem_of_getElem? (i := 15) (by decide +kernel)
theorem m_16 : Cond.selects RX7 yX7_partsBy yX7_partsBy ∈ lw_tbl := List.mem_of_getElem? (i := 16) (by decide +kernel)
theorem m_17 : Cond.selects RX7 yX7_heiressParts yX7_heiressParts ∈ lw_tbl := List.mem_of_getElem? (i := 17) (by decide +kernel)
theorem m_18 : Cond.selects RX10 yX10_error yX10_error ∈ lw_tbl := List.mem_of_getElem? (i := 18) (by decide +kernel)
theorem m_19 : Cond.selects RX10 yX10_puts yX10_puts ∈ lw_tbl := List.mem_of_getElem? (i := 19) (by decide +kernel)
theorem m_20 : Cond.selects RX10 yX10_isPerson yX10_isPerson ∈ lw_tbl := List.mem_of_getElem? (i := 20) (by decide +kernel)
theorem m_21 : Cond.selects RX10 yX10_of yX10_of ∈ lw_tbl := List.mem_of_getElem? (i := 21) (by decide +kernel)
theorem m_22 : Cond.selects RX10 yX10_sight yX10_sight ∈ lw_tbl := List.mem_of_getElem? (i := 22) (by decide +kernel)
theorem m_23 : Cond.selects RX10 yX10_eyes yX10_eyes ∈ lw_tbl := List.mem_of_getElem? (i := 23) (by decide +kernel)
theorem m_24 : Cond.selects RX10 yX10_relatives yX10_relatives ∈ lw_tbl := List.mem_of_getElem? (i := 24) (by decide +kernel)
theorem m_25 : Cond.selects RX10 yX10_besides yX10_besides ∈ lw_tbl := List.mem_of_getElem? (i := 25) (by decide +kernel)
theorem m_26 : Cond.selects RX10 yX10_isKin yX10_isKin ∈ lw_tbl := List.mem_of_getElem? (i := 26) (by decide +kernel)
theorem m_27 : Cond.selects RX10 yX10_gives yX10_gives ∈ lw_tbl := List.mem_of_getElem? (i := 27) (by decide +kernel)
theorem m_28 : Cond.selects RX10 yX10_works yX10_works ∈ lw_tbl := List.mem_of_getElem? (i := 28) (by decide +kernel)
theorem m_29 : Cond.selects RX10 yX10_becomes yX10_becomes ∈ lw_tbl := List.mem_of_getElem? (i := 29) (by decide +kernel)
theorem m_30 : Cond.selects RX10 yX10_weds yX10_weds ∈ lw_tbl := List.mem_of_getElem? (i := 30) (by decide +kernel)
theorem m_31 : Cond.selects RX10 yX10_stepsBy yX10_stepsBy ∈ lw_tbl := List.mem_of_getElem? (i := 31) (by decide +kernel)
theorem m_32 : Cond.selects RX10 yX10_veils yX10_veils ∈ lw_tbl := List.mem_of_getElem? (i := 32) (by decide +kernel)
theorem m_33 : Cond.selects RX10 yX10_letsBy yX10_letsBy ∈ lw_tbl := List.mem_of_getElem? (i := 33) (by decide +kernel)
theorem m_34 : Cond.selects RX10 yX10_any yX10_any ∈ lw_tbl := List.mem_of_getElem? (i := 34) (by decide +kernel)
theorem m_35 : Cond.selects RX10 yX10_all yX10_all ∈ lw_tbl := List.mem_of_getElem? (i := 35) (by decide +kernel)
theorem m_36 : Cond.selects RX10 yX10_compares yX10_compares ∈ lw_tbl := List.mem_of_getElem? (i := 36) (by decide +kernel)
theorem m_37 : Cond.selects RX10 yX10_sum yX10_sum ∈ lw_tbl := List.mem_of_getElem? (i := 37) (by decide +kernel)
theorem m_38 : Cond.selects RX10 yX10_times yX10_times ∈ lw_tbl := List.mem_of_getElem? (i := 38) (by decide +kernel)
theorem m_39 : Cond.selects RX10 yX10_one yX10_one ∈ lw_tbl := List.mem_of_getElem? (i := 39) (by decide +kernel)
theorem m_40 : Cond.selects RX10 yX10_look yX10_look ∈ lw_tbl := List.mem_of_getElem? (i := 40) (by decide +kernel)
theorem m_41 : Cond.selects RX10 yX10_nameOf yX10_nameOf ∈ lw_tbl := List.mem_of_getElem? (i := 41) (by decide +kernel)
theorem m_42 : Cond.selects RX10 yX10_lays yX10_lays ∈ lw_tbl := List.mem_of_getElem? (i := 42) (by decide +kernel)
theorem m_43 : Cond.selects RX10 yX10_opens yX10_opens ∈ lw_tbl := List.mem_of_getElem? (i := 43) (by decide +kernel)
theorem m_44 : Cond.selects RX10 yX10_number yX10_number ∈ lw_tbl := List.mem_of_getElem? (i := 44) (by decide +kernel)
theorem m_45 : Cond.selects RX10 yX10_goesFor yX10_goesFor ∈ lw_tbl := List.mem_of_getElem? (i := 45) (by decide +kernel)
theorem m_46 : Cond.selects RX10 yX10_goes yX10_goes ∈ lw_tbl := List.mem_of_getElem? (i := 46) (by decide +kernel)
theorem m_47 : Cond.selects RX10 yX10_allSeen yX10_allSeen ∈ lw_tbl := List.mem_of_getElem? (i := 47) (by decide +kernel)
theorem m_48 : Cond.selects RX10 yX10_drawn yX10_drawn ∈ lw_tbl := List.mem_of_getElem? (i := 48) (by decide +kernel)
theorem m_49 : Cond.selects RX10 yX10_draw yX10_draw ∈ lw_tbl := List.mem_of_getElem? (i := 49) (by decide +kernel)
theorem m_50 : Cond.selects RX10 yX10_thinks yX10_thinks ∈ lw_tbl := List.mem_of_getElem? (i := 50) (by decide +kernel)
theorem m_51 : Cond.selects RX10 yX10_putsBack yX10_putsBack ∈ lw_tbl := List.mem_of_getElem? (i := 51) (by decide +kernel)
theorem m_52 : Cond.selects RX10 yX10_seersOf yX10_seersOf ∈ lw_tbl := List.mem_of_getElem? (i := 52) (by decide +kernel)
theorem m_53 : Cond.selects RX10 yX10_everybody yX10_everybody ∈ lw_tbl := List.mem_of_getElem? (i := 53) (by decide +kernel)
theorem m_54 : Cond.selects RX10 yX10_seenBy yX10_seenBy ∈ lw_tbl := List.mem_of_getElem? (i := 54) (by decide +kernel)
theorem m_55 : Cond.selects RX10 yX10_isSo yX10_isSo ∈ lw_tbl := List.mem_of_getElem? (i := 55) (by decide +kernel)
theorem m_56 : Cond.selects RX10 yX10_lowers yX10_lowers ∈ lw_tbl := List.mem_of_getElem? (i := 56) (by decide +kernel)
theorem m_57 : Cond.selects RX10 yX10_heiressLowers yX10_heiressLowers ∈ lw_tbl := List.mem_of_getElem? (i := 57) (by decide +kernel)
theorem m_58 : Cond.selects RX10 yX10_begins yX10_begins ∈ lw_tbl := List.mem_of_getElem? (i := 58) (by decide +kernel)
theorem m_59 : Cond.selects RX10 yX10_plainLowers yX10_plainLowers ∈ lw_tbl := List.mem_of_getElem? (i := 59) (by decide +kernel)
theorem m_60 : Cond.selects RX10 yX10_lifts yX10_lifts ∈ lw_tbl := List.mem_of_getElem? (i := 60) (by decide +kernel)
theorem m_61 : Cond.selects RX10 yX10_judgeLifts yX10_judgeLifts ∈ lw_tbl := List.mem_of_getElem? (i := 61) (by decide +kernel)
theorem m_62 : Cond.selects RX10 yX10_plainLifts yX10_plainLifts ∈ lw_tbl := List.mem_of_getElem? (i := 62) (by decide +kernel)
theorem m_63 : Cond.selects RX10 yX10_looksBy yX10_looksBy ∈ lw_tbl := List.mem_of_getElem? (i := 63) (by decide +kernel)
theorem m_64 : Cond.selects RX10 yX10_plainLooks yX10_plainLooks ∈ lw_tbl := List.mem_of_getElem? (i := 64) (by decide +kernel)
theorem m_65 : Cond.selects RX10 yX10_partsBy yX10_partsBy ∈ lw_tbl := List.mem_of_getElem? (i := 65) (by decide +kernel)
theorem m_66 : Cond.selects RX10 yX10_plainParts yX10_plainParts ∈ lw_tbl := List.mem_of_getElem? (i := 66) (by decide +kernel)
theorem m_67 : Cond.selects RX10 yX10_notThere yX10_notThere ∈ lw_tbl := List.mem_of_getElem? (i := 67) (by decide +kernel)
theorem m_68 : Cond.selects RX10 yX10_notMoved yX10_notMoved ∈ lw_tbl := List.mem_of_getElem? (i := 68) (by decide +kernel)
set_option maxRecDepth 100000 in
theorem m_69 : Cond.initialized RL ∈ lw_tbl := List.mem_of_getElem? (i := 69) (by decide +kernel)
set_option maxRecDepth 100000 in
theorem m_70 : Cond.initialized RX9 ∈ lw_tbl := List.mem_of_getElem? (i := 70) (by decide +kernel)
set_option maxRecDepth 100000 in
theorem m_71 : Cond.initialized RX8 ∈ lw_tbl := List.mem_of_getElem? (i := 71) (by decide +kernel)
set_option maxRecDepth 100000 in
theorem m_72 : Cond.initialized RX1 ∈ lw_tbl := List.mem_of_getElem? (i := 72) (by decide +kernel)
set_option maxRecDepth 100000 in
theorem m_73 : Cond.initialized RX0 ∈ lw_tbl := List.mem_of_getElem? (i := 73) (by decide +kernel)
set_option maxRecDepth 100000 in
theorem m_74 : Cond.initialized RX6 ∈ lw_tbl := List.mem_of_getElem? (i := 74) (by decide +kernel)
set_option maxRecDepth 100000 in
theorem m_75 : Cond.initialized RX4 ∈ lw_tbl := List.mem_of_getElem? (i := 75) (by decide +kernel)
set_option maxRecDepth 100000 in
theorem m_76 : Cond.initialized RJ9 ∈ lw_tbl := List.mem_of_getElem? (i := 76) (by decide +kernel)
set_option maxRecDepth 100000 in
theorem m_77 : Cond.initialized RX3 ∈ lw_tbl := List.mem_of_getElem? (i := 77) (by decide +kernel)
set_option maxRecDepth 100000 in
theorem m_78 : Cond.initialized RX7 ∈ lw_tbl := List.mem_of_getElem? (i := 78) (by decide +kernel)
set_option maxRecDepth 100000 in
theorem m_79 : Cond.initialized RX5 ∈ lw_tbl := List.mem_of_getElem? (i := 79) (by decide +kernel)
set_option maxRecDepth 100000 in
theorem m_80 : Cond.initialized RX10 ∈ lw_tbl := List.mem_of_getElem? (i := 80) (by decide +kernel)
set_option maxRecDepth 100000 in
theorem m_81 : Cond.initialized RX2 ∈ lw_tbl := List.mem_of_getElem? (i := 81) (by decide +kernel)
set_option maxRecDepth 100000 in
theorem m_82 : Cond.initialized RJ0 ∈ lw_tbl := List.mem_of_getElem? (i := 82) (by decide +kernel)
set_option maxRecDepth 100000 in
theorem m_83 : Cond.initialized RJ1 ∈ lw_tbl := List.mem_of_getElem? (i := 83) (by decide +kernel)
set_option maxRecDepth 100000 in
theorem m_84 : Cond.initialized RJ2 ∈ lw_tbl := List.mem_of_getElem? (i := 84) (by decide +kernel)
set_option maxRecDepth 100000 in
theorem m_85 : Cond.initialized RJ3 ∈ lw_tbl := List.mem_of_getElem? (i := 85) (by decide +kernel)
set_option maxRecDepth 100000 in
theorem m_86 : Cond.initialized RJ11 ∈ lw_tbl := List.mem_of_getElem? (i := 86) (by decide +kernel)
set_option maxRecDepth 100000 in
theorem m_87 : Cond.initialized RJ10 ∈ lw_tbl := List.mem_of_getElem? (i := 87) (by decide +kernel)
set_option maxRecDepth 100000 in
theorem m_88 : Cond.initialized RJ6 ∈ lw_tbl := List.mem_of_getElem? (i := 88) (by decide +kernel)
set_option maxRecDepth 100000 in
theorem m_89 : Cond.classLink RL 7 "VeilSteps" ∈ lw_tbl := List.mem_of_getElem? (i := 89) (by decide +kernel)
set_option maxRecDepth 100000 in
theorem m_90 : Cond.instantiable RX9 8 ∈ lw_tbl := List.mem_of_getElem? (i := 90) (by decide +kernel)
set_option maxRecDepth 100000 in
theorem m_91 : Cond.methodLink RL 9 yX9_init ∈ lw_tbl := List.mem_of_getElem? (i := 91) (by decide +kernel)
set_option maxRecDepth 100000 in
theorem m_92 : Cond.instanceMethod yX9_init ∈ lw_tbl := List.mem_of_getElem? (i := 92) (by decide +kernel)
set_option maxRecDepth 100000 in
theorem m_93 : Cond.code yX9_init cX9_init 2 none ∈ lw_tbl := List.mem_of_getElem? (i := 93) (by rfl)
set_option maxRecDepth 100000 in
theorem m_94 : Cond.methodLink RX9 1 objectInit ∈ lw_tbl := List.mem_of_getElem? (i := 94) (by decide +kernel)
set_option maxRecDepth 100000 in
theorem m_95 : Cond.instanceMethod objectInit ∈ lw_tbl := List.mem_of_getElem? (i := 95) (by decide +kernel)
set_option maxRecDepth 100000 in
theorem m_96 : Cond.code objectInit object_method_1_code 1 none ∈ lw_tbl := List.mem_of_getElem? (i := 96) (by rfl)
set_option maxRecDepth 100000 in
theorem m_97 : Cond.classLink RX9 7 "VeilSteps$World" ∈ lw_tbl := List.mem_of_getElem? (i := 97) (by decide +kernel)
set_option maxRecDepth 100000 in
theorem m_98 : Cond.instantiable RX8 8 ∈ lw_tbl := List.mem_of_getElem? (i := 98) (by decide +kernel)
set_option maxRecDepth 100000 in
theorem m_99 : Cond.methodLink RX9 9 yX8_init ∈ lw_tbl := List.mem_of_getElem? (i := 99) (by decide +kernel)
set_option maxRecDepth 100000 in
theorem m_100 : Cond.instanceMethod yX8_init ∈ lw_tbl := List.mem_of_getElem? (i := 100) (by decide +kernel)
set_option maxRecDepth 100000 in
theorem m_101 : Cond.code yX8_init cX8_init 2 none ∈ lw_tbl := List.mem_of_getElem? (i := 101) (by rfl)
set_option maxRecDepth 100000 in
theorem m_102 : Cond.methodLink RX8 3 objectInit ∈ lw_tbl := List.mem_of_getElem? (i := 102) (by decide +kernel)
set_option maxRecDepth 100000 in
theorem m_103 : Cond.classLink RX8 9 "VeilSteps$Kin" ∈ lw_tbl := List.mem_of_getElem? (i := 103) (by decide +kernel)
set_option maxRecDepth 100000 in
theorem m_104 : Cond.instantiable RX1 6 ∈ lw_tbl := List.mem_of_getElem? (i := 104) (by decide +kernel)
set_option maxRecDepth 100000 in
theorem m_105 : Cond.methodLink RX8 11 yX1_init ∈ lw_tbl := List.mem_of_getElem? (i := 105) (by decide +kernel)
set_option maxRecDepth 100000 in
theorem m_106 : Cond.instanceMethod yX1_init ∈ lw_tbl := List.mem_of_getElem? (i := 106) (by decide +kernel)
set_option maxRecDepth 100000 in
theorem m_107 : Cond.code yX1_init cX1_init 1 none ∈ lw_tbl := List.mem_of_getElem? (i := 107) (by rfl)
set_option maxRecDepth 100000 in
theorem m_108 : Cond.methodLink RX1 3 objectInit ∈ lw_tbl := List.mem_of_getElem? (i := 108) (by decide +kernel)
set_option maxRecDepth 100000 in
theorem m_109 : Cond.fieldLink RX1 9 "VeilSteps$Kin" "count" "I" ∈ lw_tbl := List.mem_of_getElem? (i := 109) (by decide +kernel)
set_option maxRecDepth 100000 in
theorem m_110 : Cond.fieldLinkNest RX9 69 "VeilSteps$Kin" "count" "I" "VeilSteps" ∈ lw_tbl := List.mem_of_getElem? (i := 110) (by decide +kernel)
set_option maxRecDepth 100000 in
theorem m_111 : Cond.fieldLinkNest RX8 136 "VeilSteps$Kin" "count" "I" "VeilSteps" ∈ lw_tbl := List.mem_of_getElem? (i := 111) (by decide +kernel)
set_option maxRecDepth 100000 in
theorem m_112 : Cond.fieldLink RX1 15 "VeilSteps$Kin" "kind" "[I" ∈ lw_tbl := List.mem_of_getElem? (i := 112) (by decide +kernel)
set_option maxRecDepth 100000 in
theorem m_113 : Cond.fieldLinkNest RX8 75 "VeilSteps$Kin" "kind" "[I" "VeilSteps" ∈ lw_tbl := List.mem_of_getElem? (i := 113) (by decide +kernel)
set_option maxRecDepth 100000 in
theorem m_114 : Cond.fieldLinkNest RX9 85 "VeilSteps$Kin" "kind" "[I" "VeilSteps" ∈ lw_tbl := List.mem_of_getElem? (i := 114) (by decide +kernel)
set_option maxRecDepth 100000 in
theorem m_115 : Cond.fieldLink RX1 19 "VeilSteps$Kin" "m" "[I" ∈ lw_tbl := List.mem_of_getElem? (i := 115) (by decide +kernel)
set_option maxRecDepth 100000 in
theorem m_116 : Cond.fieldLinkNest RX8 78 "VeilSteps$Kin" "m" "[I" "VeilSteps" ∈ lw_tbl := List.mem_of_getElem? (i := 116) (by decide +kernel)
set_option maxRecDepth 100000 in
theorem m_117 : Cond.fieldLinkNest RX9 88 "VeilSteps$Kin" "m" "[I" "VeilSteps" ∈ lw_tbl := List.mem_of_getElem? (i := 117) (by decide +kernel)
set_option maxRecDepth 100000 in
theorem m_118 : Cond.fieldLink RX1 22 "VeilSteps$Kin" "parent" "[I" ∈ lw_tbl := List.mem_of_getElem? (i := 118) (by decide +kernel)
set_option maxRecDepth 100000 in
theorem m_119 : Cond.fieldLinkNest RX9 91 "VeilSteps$Kin" "parent" "[I" "VeilSteps" ∈ lw_tbl := List.mem_of_getElem? (i := 119) (by decide +kernel)
set_option maxRecDepth 100000 in
theorem m_120 : Cond.fieldLinkNest RX8 139 "VeilSteps$Kin" "parent" "[I" "VeilSteps" ∈ lw_tbl := List.mem_of_getElem? (i := 120) (by decide +kernel)
set_option maxRecDepth 100000 in
theorem m_121 : Cond.fieldLink RX1 25 "VeilSteps$Kin" "spouse" "[I" ∈ lw_tbl := List.mem_of_getElem? (i := 121) (by decide +kernel)
set_option maxRecDepth 100000 in
theorem m_122 : Cond.fieldLinkNest RX9 94 "VeilSteps$Kin" "spouse" "[I" "VeilSteps" ∈ lw_tbl := List.mem_of_getElem? (i := 122) (by decide +kernel)
set_option maxRecDepth 100000 in
theorem m_123 : Cond.fieldLink RX1 28 "VeilSteps$Kin" "measured" "[I" ∈ lw_tbl := List.mem_of_getElem? (i := 123) (by decide +kernel)
set_option maxRecDepth 100000 in
theorem m_124 : Cond.lays RX1 "VeilSteps$Kin" "count" "I" ∈ lw_tbl := List.mem_of_getElem? (i := 124) (by decide +kernel)
set_option maxRecDepth 100000 in
theorem m_126 : Cond.laysFinal RX1 "VeilSteps$Kin" "kind" "[I" ∈ lw_tbl := List.mem_of_getElem? (i := 126) (by decide +kernel)
set_option maxRecDepth 100000 in
theorem m_128 : Cond.laysFinal RX1 "VeilSteps$Kin" "m" "[I" ∈ lw_tbl := List.mem_of_getElem? (i := 128) (by decide +kernel)
set_option maxRecDepth 100000 in
theorem m_130 : Cond.laysFinal RX1 "VeilSteps$Kin" "parent" "[I" ∈ lw_tbl := List.mem_of_getElem? (i := 130) (by decide +kernel)
set_option maxRecDepth 100000 in
theorem m_132 : Cond.laysFinal RX1 "VeilSteps$Kin" "spouse" "[I" ∈ lw_tbl := List.mem_of_getElem? (i := 132) (by decide +kernel)
set_option maxRecDepth 100000 in
theorem m_134 : Cond.laysFinal RX1 "VeilSteps$Kin" "measured" "[I" ∈ lw_tbl := List.mem_of_getElem? (i := 134) (by decide +kernel)
set_option maxRecDepth 100000 in
theorem m_137 : Cond.arrayClass FieldType.int ∈ lw_tbl := List.mem_of_getElem? (i := 137) (by decide +kernel)
set_option maxRecDepth 100000 in
theorem m_138 : Cond.classLink RX8 18 "VeilSteps$Course" ∈ lw_tbl := List.mem_of_getElem? (i := 138) (by decide +kernel)
set_option maxRecDepth 100000 in
theorem m_139 : Cond.instantiable RX0 4 ∈ lw_tbl := List.mem_of_getElem? (i := 139) (by decide +kernel)
set_option maxRecDepth 100000 in
theorem m_140 : Cond.methodLink RX8 20 yX0_init ∈ lw_tbl := List.mem_of_getElem? (i := 140) (by decide +kernel)
set_option maxRecDepth 100000 in
theorem m_141 : Cond.instanceMethod yX0_init ∈ lw_tbl := List.mem_of_getElem? (i := 141) (by decide +kernel)
set_option maxRecDepth 100000 in
theorem m_142 : Cond.code yX0_init cX0_init 1 none ∈ lw_tbl := List.mem_of_getElem? (i := 142) (by rfl)
set_option maxRecDepth 100000 in
theorem m_143 : Cond.methodLink RX0 3 objectInit ∈ lw_tbl := List.mem_of_getElem? (i := 143) (by decide +kernel)
set_option maxRecDepth 100000 in
theorem m_144 : Cond.fieldLink RX0 9 "VeilSteps$Course" "year" "I" ∈ lw_tbl := List.mem_of_getElem? (i := 144) (by decide +kernel)
set_option maxRecDepth 100000 in
theorem m_145 : Cond.fieldLinkNest RX8 86 "VeilSteps$Course" "year" "I" "VeilSteps" ∈ lw_tbl := List.mem_of_getElem? (i := 145) (by decide +kernel)
set_option maxRecDepth 100000 in
theorem m_146 : Cond.fieldLinkNest RX9 197 "VeilSteps$Course" "year" "I" "VeilSteps" ∈ lw_tbl := List.mem_of_getElem? (i := 146) (by decide +kernel)
set_option maxRecDepth 100000 in
theorem m_147 : Cond.fieldLink RX0 15 "VeilSteps$Course" "cloth" "I" ∈ lw_tbl := List.mem_of_getElem? (i := 147) (by decide +kernel)
set_option maxRecDepth 100000 in
theorem m_148 : Cond.fieldLinkNest RX8 100 "VeilSteps$Course" "cloth" "I" "VeilSteps" ∈ lw_tbl := List.mem_of_getElem? (i := 148) (by decide +kernel)
set_option maxRecDepth 100000 in
theorem m_149 : Cond.fieldLinkNest RX9 149 "VeilSteps$Course" "cloth" "I" "VeilSteps" ∈ lw_tbl := List.mem_of_getElem? (i := 149) (by decide +kernel)
set_option maxRecDepth 100000 in
theorem m_150 : Cond.fieldLink RX0 18 "VeilSteps$Course" "order" "I" ∈ lw_tbl := List.mem_of_getElem? (i := 150) (by decide +kernel)
set_option maxRecDepth 100000 in
theorem m_151 : Cond.fieldLinkNest RX8 125 "VeilSteps$Course" "order" "I" "VeilSteps" ∈ lw_tbl := List.mem_of_getElem? (i := 151) (by decide +kernel)
set_option maxRecDepth 100000 in
theorem m_152 : Cond.fieldLinkNest RX9 152 "VeilSteps$Course" "order" "I" "VeilSteps" ∈ lw_tbl := List.mem_of_getElem? (i := 152) (by decide +kernel)
set_option maxRecDepth 100000 in
theorem m_153 : Cond.fieldLink RX0 21 "VeilSteps$Course" "seen" "[I" ∈ lw_tbl := List.mem_of_getElem? (i := 153) (by decide +kernel)
set_option maxRecDepth 100000 in
theorem m_154 : Cond.fieldLinkNest RX9 100 "VeilSteps$Course" "seen" "[I" "VeilSteps" ∈ lw_tbl := List.mem_of_getElem? (i := 154) (by decide +kernel)
set_option maxRecDepth 100000 in
theorem m_155 : Cond.fieldLinkNest RX8 122 "VeilSteps$Course" "seen" "[I" "VeilSteps" ∈ lw_tbl := List.mem_of_getElem? (i := 155) (by decide +kernel)
set_option maxRecDepth 100000 in
theorem m_156 : Cond.lays RX0 "VeilSteps$Course" "year" "I" ∈ lw_tbl := List.mem_of_getElem? (i := 156) (by decide +kernel)
set_option maxRecDepth 100000 in
theorem m_158 : Cond.lays RX0 "VeilSteps$Course" "cloth" "I" ∈ lw_tbl := List.mem_of_getElem? (i := 158) (by decide +kernel)
set_option maxRecDepth 100000 in
theorem m_160 : Cond.lays RX0 "VeilSteps$Course" "order" "I" ∈ lw_tbl := List.mem_of_getElem? (i := 160) (by decide +kernel)
set_option maxRecDepth 100000 in
theorem m_162 : Cond.laysFinal RX0 "VeilSteps$Course" "seen" "[I" ∈ lw_tbl := List.mem_of_getElem? (i := 162) (by decide +kernel)
set_option maxRecDepth 100000 in
theorem m_165 : Cond.classLink RX8 32 "VeilSteps$Text" ∈ lw_tbl := List.mem_of_getElem? (i := 165) (by decide +kernel)
set_option maxRecDepth 100000 in
theorem m_166 : Cond.arrayOver (FieldType.object "VeilSteps$Text") ∈ lw_tbl := List.mem_of_getElem? (i := 166) (by decide +kernel)
set_option maxRecDepth 100000 in
theorem m_167 : Cond.instantiable RX6 2 ∈ lw_tbl := List.mem_of_getElem? (i := 167) (by decide +kernel)
set_option maxRecDepth 100000 in
theorem m_168 : Cond.methodLink RX8 38 yX6_init ∈ lw_tbl := List.mem_of_getElem? (i := 168) (by decide +kernel)
set_option maxRecDepth 100000 in
theorem m_169 : Cond.instanceMethod yX6_init ∈ lw_tbl := List.mem_of_getElem? (i := 169) (by decide +kernel)
set_option maxRecDepth 100000 in
theorem m_170 : Cond.code yX6_init cX6_init 1 none ∈ lw_tbl := List.mem_of_getElem? (i := 170) (by rfl)
set_option maxRecDepth 100000 in
theorem m_171 : Cond.methodLink RX6 3 objectInit ∈ lw_tbl := List.mem_of_getElem? (i := 171) (by decide +kernel)
set_option maxRecDepth 100000 in
theorem m_172 : Cond.classLink RX6 9 "VeilSteps$Row" ∈ lw_tbl := List.mem_of_getElem? (i := 172) (by decide +kernel)
set_option maxRecDepth 100000 in
theorem m_173 : Cond.instantiable RX4 2 ∈ lw_tbl := List.mem_of_getElem? (i := 173) (by decide +kernel)
set_option maxRecDepth 100000 in
theorem m_174 : Cond.methodLink RX6 11 yX4_init ∈ lw_tbl := List.mem_of_getElem? (i := 174) (by decide +kernel)
set_option maxRecDepth 100000 in
theorem m_175 : Cond.instanceMethod yX4_init ∈ lw_tbl := List.mem_of_getElem? (i := 175) (by decide +kernel)
set_option maxRecDepth 100000 in
theorem m_176 : Cond.code yX4_init cX4_init 2 none ∈ lw_tbl := List.mem_of_getElem? (i := 176) (by rfl)
set_option maxRecDepth 100000 in
theorem m_177 : Cond.methodLink RX4 1 objectInit ∈ lw_tbl := List.mem_of_getElem? (i := 177) (by decide +kernel)
set_option maxRecDepth 100000 in
theorem m_178 : Cond.methodLink RX4 7 Lib.Math.max.name ∈ lw_tbl := List.mem_of_getElem? (i := 178) (by decide +kernel)
set_option maxRecDepth 100000 in
theorem m_179 : Cond.static Lib.Math.max.name ∈ lw_tbl := List.mem_of_getElem? (i := 179) (by decide +kernel)
set_option maxRecDepth 100000 in
theorem m_180 : Cond.code Lib.Math.max.name cJ9_max_7cf53 2 (some FieldType.int) ∈ lw_tbl := List.mem_of_getElem? (i := 180) (by rfl)
set_option maxRecDepth 100000 in
theorem m_181 : Cond.fieldLink RX4 13 "VeilSteps$Row" "numbers" "[I" ∈ lw_tbl := List.mem_of_getElem? (i := 181) (by decide +kernel)
set_option maxRecDepth 100000 in
theorem m_182 : Cond.fieldLink RX4 19 "VeilSteps$Row" "length" "I" ∈ lw_tbl := List.mem_of_getElem? (i := 182) (by decide +kernel)
set_option maxRecDepth 100000 in
theorem m_183 : Cond.laysFinal RX4 "VeilSteps$Row" "numbers" "[I" ∈ lw_tbl := List.mem_of_getElem? (i := 183) (by decide +kernel)
set_option maxRecDepth 100000 in
theorem m_185 : Cond.lays RX4 "VeilSteps$Row" "length" "I" ∈ lw_tbl := List.mem_of_getElem? (i := 185) (by decide +kernel)
set_option maxRecDepth 100000 in
theorem m_188 : Cond.fieldLink RX6 14 "VeilSteps$Text" "code" "LVeilSteps$Row;" ∈ lw_tbl := List.mem_of_getElem? (i := 188) (by decide +kernel)
set_option maxRecDepth 100000 in
theorem m_189 : Cond.fieldLinkNest RX8 169 "VeilSteps$Text" "code" "LVeilSteps$Row;" "VeilSteps" ∈ lw_tbl := List.mem_of_getElem? (i := 189) (by decide +kernel)
set_option maxRecDepth 100000 in
theorem m_190 : Cond.fieldLinkNest RX9 180 "VeilSteps$Text" "code" "LVeilSteps$Row;" "VeilSteps" ∈ lw_tbl := List.mem_of_getElem? (i := 190) (by decide +kernel)
set_option maxRecDepth 100000 in
theorem m_191 : Cond.fieldLink RX6 20 "VeilSteps$Text" "pile" "[I" ∈ lw_tbl := List.mem_of_getElem? (i := 191) (by decide +kernel)
set_option maxRecDepth 100000 in
theorem m_192 : Cond.laysFinal RX6 "VeilSteps$Text" "code" "LVeilSteps$Row;" ∈ lw_tbl := List.mem_of_getElem? (i := 192) (by decide +kernel)
set_option maxRecDepth 100000 in
theorem m_194 : Cond.laysFinal RX6 "VeilSteps$Text" "pile" "[I" ∈ lw_tbl := List.mem_of_getElem? (i := 194) (by decide +kernel)
set_option maxRecDepth 100000 in
theorem m_197 : Cond.classLink RX8 39 "VeilSteps$Row" ∈ lw_tbl := List.mem_of_getElem? (i := 197) (by decide +kernel)
set_option maxRecDepth 100000 in
theorem m_198 : Cond.methodLink RX8 41 yX4_init ∈ lw_tbl := List.mem_of_getElem? (i := 198) (by decide +kernel)
set_option maxRecDepth 100000 in
theorem m_199 : Cond.fieldLink RX8 12 "VeilSteps$World" "kin" "LVeilSteps$Kin;" ∈ lw_tbl := List.mem_of_getElem? (i := 199) (by decide +kernel)
set_option maxRecDepth 100000 in
theorem m_200 : Cond.fieldLinkNest RX9 65 "VeilSteps$World" "kin" "LVeilSteps$Kin;" "VeilSteps" ∈ lw_tbl := List.mem_of_getElem? (i := 200) (by decide +kernel)
set_option maxRecDepth 100000 in
theorem m_201 : Cond.fieldLink RX8 21 "VeilSteps$World" "course" "LVeilSteps$Course;" ∈ lw_tbl := List.mem_of_getElem? (i := 201) (by decide +kernel)
set_option maxRecDepth 100000 in
theorem m_202 : Cond.fieldLinkNest RX9 97 "VeilSteps$World" "course" "LVeilSteps$Course;" "VeilSteps" ∈ lw_tbl := List.mem_of_getElem? (i := 202) (by decide +kernel)
set_option maxRecDepth 100000 in
theorem m_203 : Cond.fieldLink RX8 25 "VeilSteps$World" "looker" "[I" ∈ lw_tbl := List.mem_of_getElem? (i := 203) (by decide +kernel)
set_option maxRecDepth 100000 in
theorem m_204 : Cond.fieldLinkNest RX9 143 "VeilSteps$World" "looker" "[I" "VeilSteps" ∈ lw_tbl := List.mem_of_getElem? (i := 204) (by decide +kernel)
set_option maxRecDepth 100000 in
theorem m_205 : Cond.fieldLink RX8 29 "VeilSteps$World" "met" "[I" ∈ lw_tbl := List.mem_of_getElem? (i := 205) (by decide +kernel)
set_option maxRecDepth 100000 in
theorem m_206 : Cond.fieldLinkNest RX9 146 "VeilSteps$World" "met" "[I" "VeilSteps" ∈ lw_tbl := List.mem_of_getElem? (i := 206) (by decide +kernel)
set_option maxRecDepth 100000 in
theorem m_207 : Cond.fieldLink RX8 34 "VeilSteps$World" "texts" "[LVeilSteps$Text;" ∈ lw_tbl := List.mem_of_getElem? (i := 207) (by decide +kernel)
set_option maxRecDepth 100000 in
theorem m_208 : Cond.fieldLinkNest RX9 176 "VeilSteps$World" "texts" "[LVeilSteps$Text;" "VeilSteps" ∈ lw_tbl := List.mem_of_getElem? (i := 208) (by decide +kernel)
set_option maxRecDepth 100000 in
theorem m_209 : Cond.fieldLinkNest RX9 28 "VeilSteps$World" "tape" "LVeilSteps$Row;" "VeilSteps" ∈ lw_tbl := List.mem_of_getElem? (i := 209) (by decide +kernel)
set_option maxRecDepth 100000 in
theorem m_210 : Cond.fieldLink RX8 44 "VeilSteps$World" "tape" "LVeilSteps$Row;" ∈ lw_tbl := List.mem_of_getElem? (i := 210) (by decide +kernel)
set_option maxRecDepth 100000 in
theorem m_211 : Cond.fieldLink RX8 48 "VeilSteps$World" "waiting" "LVeilSteps$Row;" ∈ lw_tbl := List.mem_of_getElem? (i := 211) (by decide +kernel)
set_option maxRecDepth 100000 in
theorem m_212 : Cond.fieldLinkNest RX9 305 "VeilSteps$World" "waiting" "LVeilSteps$Row;" "VeilSteps" ∈ lw_tbl := List.mem_of_getElem? (i := 212) (by decide +kernel)
set_option maxRecDepth 100000 in
theorem m_213 : Cond.fieldLink RX8 51 "VeilSteps$World" "z" "I" ∈ lw_tbl := List.mem_of_getElem? (i := 213) (by decide +kernel)
set_option maxRecDepth 100000 in
theorem m_214 : Cond.fieldLinkNest RX9 210 "VeilSteps$World" "z" "I" "VeilSteps" ∈ lw_tbl := List.mem_of_getElem? (i := 214) (by decide +kernel)
set_option maxRecDepth 100000 in
theorem m_215 : Cond.laysFinal RX8 "VeilSteps$World" "kin" "LVeilSteps$Kin;" ∈ lw_tbl := List.mem_of_getElem? (i := 215) (by decide +kernel)
set_option maxRecDepth 100000 in
theorem m_217 : Cond.laysFinal RX8 "VeilSteps$World" "course" "LVeilSteps$Course;" ∈ lw_tbl := List.mem_of_getElem? (i := 217) (by decide +kernel)
set_option maxRecDepth 100000 in
theorem m_219 : Cond.laysFinal RX8 "VeilSteps$World" "looker" "[I" ∈ lw_tbl := List.mem_of_getElem? (i := 219) (by decide +kernel)
set_option maxRecDepth 100000 in
theorem m_221 : Cond.laysFinal RX8 "VeilSteps$World" "met" "[I" ∈ lw_tbl := List.mem_of_getElem? (i := 221) (by decide +kernel)
set_option maxRecDepth 100000 in
theorem m_223 : Cond.laysFinal RX8 "VeilSteps$World" "texts" "[LVeilSteps$Text;" ∈ lw_tbl := List.mem_of_getElem? (i := 223) (by decide +kernel)
set_option maxRecDepth 100000 in
theorem m_225 : Cond.laysFinal RX8 "VeilSteps$World" "tape" "LVeilSteps$Row;" ∈ lw_tbl := List.mem_of_getElem? (i := 225) (by decide +kernel)
set_option maxRecDepth 100000 in
theorem m_227 : Cond.laysFinal RX8 "VeilSteps$World" "waiting" "LVeilSteps$Row;" ∈ lw_tbl := List.mem_of_getElem? (i := 227) (by decide +kernel)
set_option maxRecDepth 100000 in
theorem m_229 : Cond.lays RX8 "VeilSteps$World" "z" "I" ∈ lw_tbl := List.mem_of_getElem? (i := 229) (by decide +kernel)
set_option maxRecDepth 100000 in
theorem m_232 : Cond.classLink RX9 19 "VeilSteps$Course" ∈ lw_tbl := List.mem_of_getElem? (i := 232) (by decide +kernel)
set_option maxRecDepth 100000 in
theorem m_233 : Cond.methodLink RX9 21 yX0_init ∈ lw_tbl := List.mem_of_getElem? (i := 233) (by decide +kernel)
set_option maxRecDepth 100000 in
theorem m_234 : Cond.classLink RX9 26 "VeilSteps$Reader" ∈ lw_tbl := List.mem_of_getElem? (i := 234) (by decide +kernel)
set_option maxRecDepth 100000 in
theorem m_235 : Cond.instantiable RX3 4 ∈ lw_tbl := List.mem_of_getElem? (i := 235) (by decide +kernel)
set_option maxRecDepth 100000 in
theorem m_236 : Cond.methodLink RX9 32 yX3_init ∈ lw_tbl := List.mem_of_getElem? (i := 236) (by decide +kernel)
set_option maxRecDepth 100000 in
theorem m_237 : Cond.instanceMethod yX3_init ∈ lw_tbl := List.mem_of_getElem? (i := 237) (by decide +kernel)
set_option maxRecDepth 100000 in
theorem m_238 : Cond.code yX3_init cX3_init 2 none ∈ lw_tbl := List.mem_of_getElem? (i := 238) (by rfl)
set_option maxRecDepth 100000 in
theorem m_239 : Cond.methodLink RX3 3 objectInit ∈ lw_tbl := List.mem_of_getElem? (i := 239) (by decide +kernel)
set_option maxRecDepth 100000 in
theorem m_240 : Cond.classLink RX3 15 "VeilSteps$Row" ∈ lw_tbl := List.mem_of_getElem? (i := 240) (by decide +kernel)
set_option maxRecDepth 100000 in
theorem m_241 : Cond.methodLink RX3 17 yX4_init ∈ lw_tbl := List.mem_of_getElem? (i := 241) (by decide +kernel)
set_option maxRecDepth 100000 in
theorem m_242 : Cond.stringRef RX3 23 "vsy" ∈ lw_tbl := List.mem_of_getElem? (i := 242) (by decide +kernel)
set_option maxRecDepth 100000 in
theorem m_243 : Cond.fieldLink RX3 9 "VeilSteps$Reader" "tape" "LVeilSteps$Row;" ∈ lw_tbl := List.mem_of_getElem? (i := 243) (by decide +kernel)
set_option maxRecDepth 100000 in
theorem m_244 : Cond.fieldLink RX3 20 "VeilSteps$Reader" "code" "LVeilSteps$Row;" ∈ lw_tbl := List.mem_of_getElem? (i := 244) (by decide +kernel)
set_option maxRecDepth 100000 in
theorem m_245 : Cond.fieldLinkNest RX9 185 "VeilSteps$Reader" "code" "LVeilSteps$Row;" "VeilSteps" ∈ lw_tbl := List.mem_of_getElem? (i := 245) (by decide +kernel)
set_option maxRecDepth 100000 in
theorem m_246 : Cond.fieldLink RX3 25 "VeilSteps$Reader" "names" "Ljava/lang/String;" ∈ lw_tbl := List.mem_of_getElem? (i := 246) (by decide +kernel)
set_option maxRecDepth 100000 in
theorem m_247 : Cond.fieldLink RX3 29 "VeilSteps$Reader" "at" "I" ∈ lw_tbl := List.mem_of_getElem? (i := 247) (by decide +kernel)
set_option maxRecDepth 100000 in
theorem m_248 : Cond.laysFinal RX3 "VeilSteps$Reader" "tape" "LVeilSteps$Row;" ∈ lw_tbl := List.mem_of_getElem? (i := 248) (by decide +kernel)
set_option maxRecDepth 100000 in
theorem m_250 : Cond.laysFinal RX3 "VeilSteps$Reader" "code" "LVeilSteps$Row;" ∈ lw_tbl := List.mem_of_getElem? (i := 250) (by decide +kernel)
set_option maxRecDepth 100000 in
theorem m_252 : Cond.lays RX3 "VeilSteps$Reader" "names" "Ljava/lang/String;" ∈ lw_tbl := List.mem_of_getElem? (i := 252) (by decide +kernel)
set_option maxRecDepth 100000 in
theorem m_254 : Cond.lays RX3 "VeilSteps$Reader" "at" "I" ∈ lw_tbl := List.mem_of_getElem? (i := 254) (by decide +kernel)
set_option maxRecDepth 100000 in
theorem m_257 : Cond.arrayClass FieldType.byte ∈ lw_tbl := List.mem_of_getElem? (i := 257) (by decide +kernel)
set_option maxRecDepth 100000 in
theorem m_258 : Cond.classLink RX9 39 "VeilSteps$Voices" ∈ lw_tbl := List.mem_of_getElem? (i := 258) (by decide +kernel)
set_option maxRecDepth 100000 in
theorem m_259 : Cond.instantiable RX7 5 ∈ lw_tbl := List.mem_of_getElem? (i := 259) (by decide +kernel)
set_option maxRecDepth 100000 in
theorem m_260 : Cond.methodLink RX9 41 yX7_init ∈ lw_tbl := List.mem_of_getElem? (i := 260) (by decide +kernel)
set_option maxRecDepth 100000 in
theorem m_261 : Cond.instanceMethod yX7_init ∈ lw_tbl := List.mem_of_getElem? (i := 261) (by decide +kernel)
set_option maxRecDepth 100000 in
theorem m_262 : Cond.code yX7_init cX7_init 1 none ∈ lw_tbl := List.mem_of_getElem? (i := 262) (by rfl)
set_option maxRecDepth 100000 in
theorem m_263 : Cond.methodLink RX7 1 objectInit ∈ lw_tbl := List.mem_of_getElem? (i := 263) (by decide +kernel)
set_option maxRecDepth 100000 in
theorem m_264 : Cond.classLink RX7 7 "VeilSteps$Row" ∈ lw_tbl := List.mem_of_getElem? (i := 264) (by decide +kernel)
set_option maxRecDepth 100000 in
theorem m_265 : Cond.methodLink RX7 11 yX4_init ∈ lw_tbl := List.mem_of_getElem? (i := 265) (by decide +kernel)
set_option maxRecDepth 100000 in
theorem m_266 : Cond.fieldLink RX7 14 "VeilSteps$Voices" "trace" "LVeilSteps$Row;" ∈ lw_tbl := List.mem_of_getElem? (i := 266) (by decide +kernel)
set_option maxRecDepth 100000 in
theorem m_267 : Cond.fieldLinkNest RX9 274 "VeilSteps$Voices" "trace" "LVeilSteps$Row;" "VeilSteps" ∈ lw_tbl := List.mem_of_getElem? (i := 267) (by decide +kernel)
set_option maxRecDepth 100000 in
theorem m_268 : Cond.fieldLink RX7 18 "VeilSteps$Voices" "kind" "I" ∈ lw_tbl := List.mem_of_getElem? (i := 268) (by decide +kernel)
set_option maxRecDepth 100000 in
theorem m_269 : Cond.fieldLink RX7 22 "VeilSteps$Voices" "k" "I" ∈ lw_tbl := List.mem_of_getElem? (i := 269) (by decide +kernel)
set_option maxRecDepth 100000 in
theorem m_270 : Cond.fieldLink RX7 25 "VeilSteps$Voices" "m" "I" ∈ lw_tbl := List.mem_of_getElem? (i := 270) (by decide +kernel)
set_option maxRecDepth 100000 in
theorem m_271 : Cond.fieldLink RX7 28 "VeilSteps$Voices" "parted" "Z" ∈ lw_tbl := List.mem_of_getElem? (i := 271) (by decide +kernel)
set_option maxRecDepth 100000 in
theorem m_272 : Cond.fieldLinkNest RX9 270 "VeilSteps$Voices" "parted" "Z" "VeilSteps" ∈ lw_tbl := List.mem_of_getElem? (i := 272) (by decide +kernel)
set_option maxRecDepth 100000 in
theorem m_273 : Cond.laysFinal RX7 "VeilSteps$Voices" "trace" "LVeilSteps$Row;" ∈ lw_tbl := List.mem_of_getElem? (i := 273) (by decide +kernel)
set_option maxRecDepth 100000 in
theorem m_275 : Cond.lays RX7 "VeilSteps$Voices" "kind" "I" ∈ lw_tbl := List.mem_of_getElem? (i := 275) (by decide +kernel)
set_option maxRecDepth 100000 in
theorem m_277 : Cond.lays RX7 "VeilSteps$Voices" "k" "I" ∈ lw_tbl := List.mem_of_getElem? (i := 277) (by decide +kernel)
set_option maxRecDepth 100000 in
theorem m_279 : Cond.lays RX7 "VeilSteps$Voices" "m" "I" ∈ lw_tbl := List.mem_of_getElem? (i := 279) (by decide +kernel)
set_option maxRecDepth 100000 in
theorem m_281 : Cond.lays RX7 "VeilSteps$Voices" "parted" "Z" ∈ lw_tbl := List.mem_of_getElem? (i := 281) (by decide +kernel)
set_option maxRecDepth 100000 in
theorem m_284 : Cond.classLink RX9 46 "VeilSteps$Sheet" ∈ lw_tbl := List.mem_of_getElem? (i := 284) (by decide +kernel)
set_option maxRecDepth 100000 in
theorem m_285 : Cond.arrayOver (FieldType.object "VeilSteps$Sheet") ∈ lw_tbl := List.mem_of_getElem? (i := 285) (by decide +kernel)
set_option maxRecDepth 100000 in
theorem m_286 : Cond.instantiable RX5 2 ∈ lw_tbl := List.mem_of_getElem? (i := 286) (by decide +kernel)
set_option maxRecDepth 100000 in
theorem m_287 : Cond.methodLink RX9 52 yX5_init ∈ lw_tbl := List.mem_of_getElem? (i := 287) (by decide +kernel)
set_option maxRecDepth 100000 in
theorem m_288 : Cond.instanceMethod yX5_init ∈ lw_tbl := List.mem_of_getElem? (i := 288) (by decide +kernel)
set_option maxRecDepth 100000 in
theorem m_289 : Cond.code yX5_init cX5_init 1 none ∈ lw_tbl := List.mem_of_getElem? (i := 289) (by rfl)
set_option maxRecDepth 100000 in
theorem m_290 : Cond.methodLink RX5 3 objectInit ∈ lw_tbl := List.mem_of_getElem? (i := 290) (by decide +kernel)
set_option maxRecDepth 100000 in
theorem m_291 : Cond.classLink RX5 9 "VeilSteps$Row" ∈ lw_tbl := List.mem_of_getElem? (i := 291) (by decide +kernel)
set_option maxRecDepth 100000 in
theorem m_292 : Cond.methodLink RX5 11 yX4_init ∈ lw_tbl := List.mem_of_getElem? (i := 292) (by decide +kernel)
set_option maxRecDepth 100000 in
theorem m_293 : Cond.fieldLink RX5 14 "VeilSteps$Sheet" "row" "LVeilSteps$Row;" ∈ lw_tbl := List.mem_of_getElem? (i := 293) (by decide +kernel)
set_option maxRecDepth 100000 in
theorem m_294 : Cond.fieldLinkNest RX9 253 "VeilSteps$Sheet" "row" "LVeilSteps$Row;" "VeilSteps" ∈ lw_tbl := List.mem_of_getElem? (i := 294) (by decide +kernel)
set_option maxRecDepth 100000 in
theorem m_295 : Cond.fieldLink RX5 20 "VeilSteps$Sheet" "bits" "I" ∈ lw_tbl := List.mem_of_getElem? (i := 295) (by decide +kernel)
set_option maxRecDepth 100000 in
theorem m_296 : Cond.fieldLinkNest RX9 292 "VeilSteps$Sheet" "bits" "I" "VeilSteps" ∈ lw_tbl := List.mem_of_getElem? (i := 296) (by decide +kernel)
set_option maxRecDepth 100000 in
theorem m_297 : Cond.laysFinal RX5 "VeilSteps$Sheet" "row" "LVeilSteps$Row;" ∈ lw_tbl := List.mem_of_getElem? (i := 297) (by decide +kernel)
set_option maxRecDepth 100000 in
theorem m_299 : Cond.lays RX5 "VeilSteps$Sheet" "bits" "I" ∈ lw_tbl := List.mem_of_getElem? (i := 299) (by decide +kernel)
set_option maxRecDepth 100000 in
theorem m_302 : Cond.fieldLink RX9 10 "VeilSteps" "now" "LVeilSteps$World;" ∈ lw_tbl := List.mem_of_getElem? (i := 302) (by decide +kernel)
set_option maxRecDepth 100000 in
theorem m_303 : Cond.fieldLink RX9 16 "VeilSteps" "kept" "LVeilSteps$World;" ∈ lw_tbl := List.mem_of_getElem? (i := 303) (by decide +kernel)
set_option maxRecDepth 100000 in
theorem m_304 : Cond.fieldLink RX9 22 "VeilSteps" "thought" "LVeilSteps$Course;" ∈ lw_tbl := List.mem_of_getElem? (i := 304) (by decide +kernel)
set_option maxRecDepth 100000 in
theorem m_305 : Cond.fieldLink RX9 35 "VeilSteps" "reader" "LVeilSteps$Reader;" ∈ lw_tbl := List.mem_of_getElem? (i := 305) (by decide +kernel)
set_option maxRecDepth 100000 in
theorem m_306 : Cond.fieldLink RX9 42 "VeilSteps" "voices" "LVeilSteps$Voices;" ∈ lw_tbl := List.mem_of_getElem? (i := 306) (by decide +kernel)
set_option maxRecDepth 100000 in
theorem m_307 : Cond.fieldLink RX9 48 "VeilSteps" "sheets" "[LVeilSteps$Sheet;" ∈ lw_tbl := List.mem_of_getElem? (i := 307) (by decide +kernel)
set_option maxRecDepth 100000 in
theorem m_308 : Cond.fieldLink RX9 53 "VeilSteps" "errors" "[I" ∈ lw_tbl := List.mem_of_getElem? (i := 308) (by decide +kernel)
set_option maxRecDepth 100000 in
theorem m_309 : Cond.fieldLink RX9 57 "VeilSteps" "images" "I" ∈ lw_tbl := List.mem_of_getElem? (i := 309) (by decide +kernel)
set_option maxRecDepth 100000 in
theorem m_310 : Cond.laysFinal RX9 "VeilSteps" "now" "LVeilSteps$World;" ∈ lw_tbl := List.mem_of_getElem? (i := 310) (by decide +kernel)
set_option maxRecDepth 100000 in
theorem m_312 : Cond.laysFinal RX9 "VeilSteps" "kept" "LVeilSteps$World;" ∈ lw_tbl := List.mem_of_getElem? (i := 312) (by decide +kernel)
set_option maxRecDepth 100000 in
theorem m_314 : Cond.laysFinal RX9 "VeilSteps" "thought" "LVeilSteps$Course;" ∈ lw_tbl := List.mem_of_getElem? (i := 314) (by decide +kernel)
set_option maxRecDepth 100000 in
theorem m_316 : Cond.laysFinal RX9 "VeilSteps" "reader" "LVeilSteps$Reader;" ∈ lw_tbl := List.mem_of_getElem? (i := 316) (by decide +kernel)
set_option maxRecDepth 100000 in
theorem m_318 : Cond.laysFinal RX9 "VeilSteps" "voices" "LVeilSteps$Voices;" ∈ lw_tbl := List.mem_of_getElem? (i := 318) (by decide +kernel)
set_option maxRecDepth 100000 in
theorem m_320 : Cond.laysFinal RX9 "VeilSteps" "sheets" "[LVeilSteps$Sheet;" ∈ lw_tbl := List.mem_of_getElem? (i := 320) (by decide +kernel)
set_option maxRecDepth 100000 in
theorem m_322 : Cond.laysFinal RX9 "VeilSteps" "errors" "[I" ∈ lw_tbl := List.mem_of_getElem? (i := 322) (by decide +kernel)
set_option maxRecDepth 100000 in
theorem m_324 : Cond.lays RX9 "VeilSteps" "images" "I" ∈ lw_tbl := List.mem_of_getElem? (i := 324) (by decide +kernel)
set_option maxRecDepth 100000 in
theorem m_327 : Cond.methodLink RL 13 yX9_person ∈ lw_tbl := List.mem_of_getElem? (i := 327) (by decide +kernel)
set_option maxRecDepth 100000 in
theorem m_328 : Cond.instanceMethod yX9_person ∈ lw_tbl := List.mem_of_getElem? (i := 328) (by decide +kernel)
set_option maxRecDepth 100000 in
theorem m_329 : Cond.selects RX9 yX9_person yX9_person ∈ lw_tbl := List.mem_of_getElem? (i := 329) (by decide +kernel)
set_option maxRecDepth 100000 in
theorem m_330 : Cond.code yX9_person cX9_person 3 (some FieldType.int) ∈ lw_tbl := List.mem_of_getElem? (i := 330) (by rfl)
set_option maxRecDepth 100000 in
theorem m_331 : Cond.methodLink RX9 61 yX9_isKm ∈ lw_tbl := List.mem_of_getElem? (i := 331) (by decide +kernel)
set_option maxRecDepth 100000 in
theorem m_332 : Cond.static yX9_isKm ∈ lw_tbl := List.mem_of_getElem? (i := 332) (by decide +kernel)
set_option maxRecDepth 100000 in
theorem m_333 : Cond.code yX9_isKm cX9_isKm 1 (some FieldType.boolean) ∈ lw_tbl := List.mem_of_getElem? (i := 333) (by rfl)
set_option maxRecDepth 100000 in
theorem m_334 : Cond.methodLink RX9 74 yX9_fail ∈ lw_tbl := List.mem_of_getElem? (i := 334) (by decide +kernel)
set_option maxRecDepth 100000 in
theorem m_336 : Cond.instanceMethod yX9_fail ∈ lw_tbl := List.mem_of_getElem? (i := 336) (by decide +kernel)
set_option maxRecDepth 100000 in
theorem m_337 : Cond.code yX9_fail cX9_fail 2 (some FieldType.int) ∈ lw_tbl := List.mem_of_getElem? (i := 337) (by rfl)
set_option maxRecDepth 100000 in
theorem m_338 : Cond.constant RX9 308 (-1000000000) ∈ lw_tbl := List.mem_of_getElem? (i := 338) (by decide +kernel)
set_option maxRecDepth 100000 in
theorem m_339 : Cond.methodLink RX9 78 yX1_add ∈ lw_tbl := List.mem_of_getElem? (i := 339) (by decide +kernel)
set_option maxRecDepth 100000 in
theorem m_340 : Cond.instanceMethod yX1_add ∈ lw_tbl := List.mem_of_getElem? (i := 340) (by decide +kernel)
set_option maxRecDepth 100000 in
theorem m_341 : Cond.selects RX1 yX1_add yX1_add ∈ lw_tbl := List.mem_of_getElem? (i := 341) (by decide +kernel)
set_option maxRecDepth 100000 in
theorem m_342 : Cond.code yX1_add cX1_add 5 (some FieldType.int) ∈ lw_tbl := List.mem_of_getElem? (i := 342) (by rfl)
set_option maxRecDepth 100000 in
theorem m_343 : Cond.methodLink RX1 31 yX1_measure ∈ lw_tbl := List.mem_of_getElem? (i := 343) (by decide +kernel)
set_option maxRecDepth 100000 in
theorem m_345 : Cond.instanceMethod yX1_measure ∈ lw_tbl := List.mem_of_getElem? (i := 345) (by decide +kernel)
set_option maxRecDepth 100000 in
theorem m_346 : Cond.code yX1_measure cX1_measure 3 none ∈ lw_tbl := List.mem_of_getElem? (i := 346) (by rfl)
set_option maxRecDepth 100000 in
theorem m_347 : Cond.methodLink RX1 38 yX1_link ∈ lw_tbl := List.mem_of_getElem? (i := 347) (by decide +kernel)
set_option maxRecDepth 100000 in
theorem m_349 : Cond.instanceMethod yX1_link ∈ lw_tbl := List.mem_of_getElem? (i := 349) (by decide +kernel)
set_option maxRecDepth 100000 in
theorem m_350 : Cond.code yX1_link cX1_link 3 none ∈ lw_tbl := List.mem_of_getElem? (i := 350) (by rfl)
set_option maxRecDepth 100000 in
theorem m_351 : Cond.methodLink RX1 45 yX1_has ∈ lw_tbl := List.mem_of_getElem? (i := 351) (by decide +kernel)
set_option maxRecDepth 100000 in
theorem m_352 : Cond.instanceMethod yX1_has ∈ lw_tbl := List.mem_of_getElem? (i := 352) (by decide +kernel)
set_option maxRecDepth 100000 in
theorem m_353 : Cond.selects RX1 yX1_has yX1_has ∈ lw_tbl := List.mem_of_getElem? (i := 353) (by decide +kernel)
set_option maxRecDepth 100000 in
theorem m_354 : Cond.code yX1_has cX1_has 2 (some FieldType.boolean) ∈ lw_tbl := List.mem_of_getElem? (i := 354) (by rfl)
set_option maxRecDepth 100000 in
theorem m_355 : Cond.methodLink RX1 42 yX1_shortenBy ∈ lw_tbl := List.mem_of_getElem? (i := 355) (by decide +kernel)
set_option maxRecDepth 100000 in
theorem m_357 : Cond.instanceMethod yX1_shortenBy ∈ lw_tbl := List.mem_of_getElem? (i := 357) (by decide +kernel)
set_option maxRecDepth 100000 in
theorem m_358 : Cond.code yX1_shortenBy cX1_shortenBy 6 none ∈ lw_tbl := List.mem_of_getElem? (i := 358) (by rfl)
set_option maxRecDepth 100000 in
theorem m_359 : Cond.methodLink RX1 34 yX1_between ∈ lw_tbl := List.mem_of_getElem? (i := 359) (by decide +kernel)
set_option maxRecDepth 100000 in
theorem m_360 : Cond.instanceMethod yX1_between ∈ lw_tbl := List.mem_of_getElem? (i := 360) (by decide +kernel)
set_option maxRecDepth 100000 in
theorem m_361 : Cond.selects RX1 yX1_between yX1_between ∈ lw_tbl := List.mem_of_getElem? (i := 361) (by decide +kernel)
set_option maxRecDepth 100000 in
theorem m_362 : Cond.code yX1_between cX1_between 3 (some FieldType.int) ∈ lw_tbl := List.mem_of_getElem? (i := 362) (by rfl)
set_option maxRecDepth 100000 in
theorem m_363 : Cond.methodLink RX1 49 Lib.Math.min.name ∈ lw_tbl := List.mem_of_getElem? (i := 363) (by decide +kernel)
set_option maxRecDepth 100000 in
theorem m_364 : Cond.static Lib.Math.min.name ∈ lw_tbl := List.mem_of_getElem? (i := 364) (by decide +kernel)
set_option maxRecDepth 100000 in
theorem m_365 : Cond.code Lib.Math.min.name cJ9_min_7cf53 2 (some FieldType.int) ∈ lw_tbl := List.mem_of_getElem? (i := 365) (by rfl)
set_option maxRecDepth 100000 in
theorem m_366 : Cond.methodLink RL 18 yX9_personIs ∈ lw_tbl := List.mem_of_getElem? (i := 366) (by decide +kernel)
set_option maxRecDepth 100000 in
theorem m_367 : Cond.instanceMethod yX9_personIs ∈ lw_tbl := List.mem_of_getElem? (i := 367) (by decide +kernel)
set_option maxRecDepth 100000 in
theorem m_368 : Cond.selects RX9 yX9_personIs yX9_personIs ∈ lw_tbl := List.mem_of_getElem? (i := 368) (by decide +kernel)
set_option maxRecDepth 100000 in
theorem m_369 : Cond.code yX9_personIs cX9_personIs 3 (some FieldType.int) ∈ lw_tbl := List.mem_of_getElem? (i := 369) (by rfl)
set_option maxRecDepth 100000 in
theorem m_370 : Cond.methodLink RX9 82 yX1_has ∈ lw_tbl := List.mem_of_getElem? (i := 370) (by decide +kernel)
set_option maxRecDepth 100000 in
theorem m_371 : Cond.methodLink RX9 103 yX8_sightOf ∈ lw_tbl := List.mem_of_getElem? (i := 371) (by decide +kernel)
set_option maxRecDepth 100000 in
theorem m_372 : Cond.instanceMethod yX8_sightOf ∈ lw_tbl := List.mem_of_getElem? (i := 372) (by decide +kernel)
set_option maxRecDepth 100000 in
theorem m_373 : Cond.selects RX8 yX8_sightOf yX8_sightOf ∈ lw_tbl := List.mem_of_getElem? (i := 373) (by decide +kernel)
set_option maxRecDepth 100000 in
theorem m_374 : Cond.code yX8_sightOf cX8_sightOf 4 (some FieldType.int) ∈ lw_tbl := List.mem_of_getElem? (i := 374) (by rfl)
set_option maxRecDepth 100000 in
theorem m_375 : Cond.methodLink RX8 93 yX1_nearTo ∈ lw_tbl := List.mem_of_getElem? (i := 375) (by decide +kernel)
set_option maxRecDepth 100000 in
theorem m_376 : Cond.instanceMethod yX1_nearTo ∈ lw_tbl := List.mem_of_getElem? (i := 376) (by decide +kernel)
set_option maxRecDepth 100000 in
theorem m_377 : Cond.selects RX1 yX1_nearTo yX1_nearTo ∈ lw_tbl := List.mem_of_getElem? (i := 377) (by decide +kernel)
set_option maxRecDepth 100000 in
theorem m_378 : Cond.code yX1_nearTo cX1_nearTo 4 (some FieldType.int) ∈ lw_tbl := List.mem_of_getElem? (i := 378) (by rfl)
set_option maxRecDepth 100000 in
theorem m_379 : Cond.methodLink RX8 97 yX2_lookThrough ∈ lw_tbl := List.mem_of_getElem? (i := 379) (by decide +kernel)
set_option maxRecDepth 100000 in
theorem m_380 : Cond.static yX2_lookThrough ∈ lw_tbl := List.mem_of_getElem? (i := 380) (by decide +kernel)
set_option maxRecDepth 100000 in
theorem m_381 : Cond.code yX2_lookThrough cX2_lookThrough 4 (some FieldType.int) ∈ lw_tbl := List.mem_of_getElem? (i := 381) (by rfl)
set_option maxRecDepth 100000 in
theorem m_382 : Cond.methodLink RX8 89 yX8_gives ∈ lw_tbl := List.mem_of_getElem? (i := 382) (by decide +kernel)
set_option maxRecDepth 100000 in
theorem m_383 : Cond.instanceMethod yX8_gives ∈ lw_tbl := List.mem_of_getElem? (i := 383) (by decide +kernel)
set_option maxRecDepth 100000 in
theorem m_384 : Cond.selects RX8 yX8_gives yX8_gives ∈ lw_tbl := List.mem_of_getElem? (i := 384) (by decide +kernel)
set_option maxRecDepth 100000 in
theorem m_385 : Cond.code yX8_gives cX8_gives 6 (some FieldType.int) ∈ lw_tbl := List.mem_of_getElem? (i := 385) (by rfl)
set_option maxRecDepth 100000 in
theorem m_386 : Cond.methodLink RX8 55 yX6_isGiven ∈ lw_tbl := List.mem_of_getElem? (i := 386) (by decide +kernel)
set_option maxRecDepth 100000 in
theorem m_387 : Cond.instanceMethod yX6_isGiven ∈ lw_tbl := List.mem_of_getElem? (i := 387) (by decide +kernel)
set_option maxRecDepth 100000 in
theorem m_388 : Cond.selects RX6 yX6_isGiven yX6_isGiven ∈ lw_tbl := List.mem_of_getElem? (i := 388) (by decide +kernel)
set_option maxRecDepth 100000 in
theorem m_389 : Cond.code yX6_isGiven cX6_isGiven 1 (some FieldType.boolean) ∈ lw_tbl := List.mem_of_getElem? (i := 389) (by rfl)
set_option maxRecDepth 100000 in
theorem m_390 : Cond.methodLink RX6 24 yX4_size ∈ lw_tbl := List.mem_of_getElem? (i := 390) (by decide +kernel)
set_option maxRecDepth 100000 in
theorem m_391 : Cond.instanceMethod yX4_size ∈ lw_tbl := List.mem_of_getElem? (i := 391) (by decide +kernel)
set_option maxRecDepth 100000 in
theorem m_392 : Cond.selects RX4 yX4_size yX4_size ∈ lw_tbl := List.mem_of_getElem? (i := 392) (by decide +kernel)
set_option maxRecDepth 100000 in
theorem m_393 : Cond.code yX4_size cX4_size 1 (some FieldType.int) ∈ lw_tbl := List.mem_of_getElem? (i := 393) (by rfl)
set_option maxRecDepth 100000 in
theorem m_394 : Cond.methodLink RX8 59 yX6_worked ∈ lw_tbl := List.mem_of_getElem? (i := 394) (by decide +kernel)
set_option maxRecDepth 100000 in
theorem m_395 : Cond.instanceMethod yX6_worked ∈ lw_tbl := List.mem_of_getElem? (i := 395) (by decide +kernel)
set_option maxRecDepth 100000 in
theorem m_396 : Cond.selects RX6 yX6_worked yX6_worked ∈ lw_tbl := List.mem_of_getElem? (i := 396) (by decide +kernel)
set_option maxRecDepth 100000 in
theorem m_397 : Cond.code yX6_worked cX6_worked 7 (some FieldType.int) ∈ lw_tbl := List.mem_of_getElem? (i := 397) (by rfl)
set_option maxRecDepth 100000 in
theorem m_398 : Cond.methodLink RX6 28 yX4_at ∈ lw_tbl := List.mem_of_getElem? (i := 398) (by decide +kernel)
set_option maxRecDepth 100000 in
theorem m_399 : Cond.instanceMethod yX4_at ∈ lw_tbl := List.mem_of_getElem? (i := 399) (by decide +kernel)
set_option maxRecDepth 100000 in
theorem m_400 : Cond.selects RX4 yX4_at yX4_at ∈ lw_tbl := List.mem_of_getElem? (i := 400) (by decide +kernel)
set_option maxRecDepth 100000 in
theorem m_401 : Cond.code yX4_at cX4_at 2 (some FieldType.int) ∈ lw_tbl := List.mem_of_getElem? (i := 401) (by rfl)
set_option maxRecDepth 100000 in
theorem m_402 : Cond.methodLink RX6 32 yX6_joined ∈ lw_tbl := List.mem_of_getElem? (i := 402) (by decide +kernel)
set_option maxRecDepth 100000 in
theorem m_403 : Cond.static yX6_joined ∈ lw_tbl := List.mem_of_getElem? (i := 403) (by decide +kernel)
set_option maxRecDepth 100000 in
theorem m_404 : Cond.code yX6_joined cX6_joined 3 (some FieldType.int) ∈ lw_tbl := List.mem_of_getElem? (i := 404) (by rfl)
set_option maxRecDepth 100000 in
theorem m_405 : Cond.methodLink RX6 36 yX6_named ∈ lw_tbl := List.mem_of_getElem? (i := 405) (by decide +kernel)
set_option maxRecDepth 100000 in
theorem m_406 : Cond.static yX6_named ∈ lw_tbl := List.mem_of_getElem? (i := 406) (by decide +kernel)
set_option maxRecDepth 100000 in
theorem m_407 : Cond.code yX6_named cX6_named 4 (some FieldType.int) ∈ lw_tbl := List.mem_of_getElem? (i := 407) (by rfl)
set_option maxRecDepth 100000 in
theorem m_408 : Cond.methodLink RX8 63 Lib.Math.min.name ∈ lw_tbl := List.mem_of_getElem? (i := 408) (by decide +kernel)
set_option maxRecDepth 100000 in
theorem m_409 : Cond.methodLink RX8 69 Lib.Math.max.name ∈ lw_tbl := List.mem_of_getElem? (i := 409) (by decide +kernel)
set_option maxRecDepth 100000 in
theorem m_410 : Cond.methodLink RL 22 yX9_become ∈ lw_tbl := List.mem_of_getElem? (i := 410) (by decide +kernel)
set_option maxRecDepth 100000 in
theorem m_411 : Cond.instanceMethod yX9_become ∈ lw_tbl := List.mem_of_getElem? (i := 411) (by decide +kernel)
set_option maxRecDepth 100000 in
theorem m_412 : Cond.selects RX9 yX9_become yX9_become ∈ lw_tbl := List.mem_of_getElem? (i := 412) (by decide +kernel)
set_option maxRecDepth 100000 in
theorem m_413 : Cond.code yX9_become cX9_become 4 (some FieldType.int) ∈ lw_tbl := List.mem_of_getElem? (i := 413) (by rfl)
set_option maxRecDepth 100000 in
theorem m_414 : Cond.methodLink RL 26 yX9_as ∈ lw_tbl := List.mem_of_getElem? (i := 414) (by decide +kernel)
set_option maxRecDepth 100000 in
theorem m_415 : Cond.instanceMethod yX9_as ∈ lw_tbl := List.mem_of_getElem? (i := 415) (by decide +kernel)
set_option maxRecDepth 100000 in
theorem m_416 : Cond.selects RX9 yX9_as yX9_as ∈ lw_tbl := List.mem_of_getElem? (i := 416) (by decide +kernel)
set_option maxRecDepth 100000 in
theorem m_417 : Cond.code yX9_as cX9_as 3 (some FieldType.int) ∈ lw_tbl := List.mem_of_getElem? (i := 417) (by rfl)
set_option maxRecDepth 100000 in
theorem m_418 : Cond.methodLink RX9 107 yX2_isKind ∈ lw_tbl := List.mem_of_getElem? (i := 418) (by decide +kernel)
set_option maxRecDepth 100000 in
theorem m_419 : Cond.static yX2_isKind ∈ lw_tbl := List.mem_of_getElem? (i := 419) (by decide +kernel)
set_option maxRecDepth 100000 in
theorem m_420 : Cond.code yX2_isKind cX2_isKind 1 (some FieldType.boolean) ∈ lw_tbl := List.mem_of_getElem? (i := 420) (by rfl)
set_option maxRecDepth 100000 in
theorem m_421 : Cond.fieldLink RX2 9 "VeilSteps$Kinds" "ABOVE" "[I" ∈ lw_tbl := List.mem_of_getElem? (i := 421) (by decide +kernel)
set_option maxRecDepth 100000 in
theorem m_422 : Cond.laysStatic "VeilSteps$Kinds" "ABOVE" "[I" ∈ lw_tbl := List.mem_of_getElem? (i := 422) (by decide +kernel)
set_option maxRecDepth 100000 in
theorem m_423 : Cond.methodLink RX9 112 yX2_isUnder ∈ lw_tbl := List.mem_of_getElem? (i := 423) (by decide +kernel)
set_option maxRecDepth 100000 in
theorem m_424 : Cond.static yX2_isUnder ∈ lw_tbl := List.mem_of_getElem? (i := 424) (by decide +kernel)
set_option maxRecDepth 100000 in
theorem m_425 : Cond.code yX2_isUnder cX2_isUnder 4 (some FieldType.boolean) ∈ lw_tbl := List.mem_of_getElem? (i := 425) (by rfl)
set_option maxRecDepth 100000 in
theorem m_426 : Cond.methodLink RX2 19 yX2_above ∈ lw_tbl := List.mem_of_getElem? (i := 426) (by decide +kernel)
set_option maxRecDepth 100000 in
theorem m_427 : Cond.static yX2_above ∈ lw_tbl := List.mem_of_getElem? (i := 427) (by decide +kernel)
set_option maxRecDepth 100000 in
theorem m_428 : Cond.code yX2_above cX2_above 1 (some FieldType.int) ∈ lw_tbl := List.mem_of_getElem? (i := 428) (by rfl)
set_option maxRecDepth 100000 in
theorem m_429 : Cond.methodLink RX2 15 yX2_isKind ∈ lw_tbl := List.mem_of_getElem? (i := 429) (by decide +kernel)
set_option maxRecDepth 100000 in
theorem m_430 : Cond.methodLink RL 30 yX9_descends ∈ lw_tbl := List.mem_of_getElem? (i := 430) (by decide +kernel)
set_option maxRecDepth 100000 in
theorem m_431 : Cond.instanceMethod yX9_descends ∈ lw_tbl := List.mem_of_getElem? (i := 431) (by decide +kernel)
set_option maxRecDepth 100000 in
theorem m_432 : Cond.selects RX9 yX9_descends yX9_descends ∈ lw_tbl := List.mem_of_getElem? (i := 432) (by decide +kernel)
set_option maxRecDepth 100000 in
theorem m_433 : Cond.code yX9_descends cX9_descends 4 (some FieldType.int) ∈ lw_tbl := List.mem_of_getElem? (i := 433) (by rfl)
set_option maxRecDepth 100000 in
theorem m_434 : Cond.methodLink RX9 116 yX1_giveParent ∈ lw_tbl := List.mem_of_getElem? (i := 434) (by decide +kernel)
set_option maxRecDepth 100000 in
theorem m_435 : Cond.instanceMethod yX1_giveParent ∈ lw_tbl := List.mem_of_getElem? (i := 435) (by decide +kernel)
set_option maxRecDepth 100000 in
theorem m_436 : Cond.selects RX1 yX1_giveParent yX1_giveParent ∈ lw_tbl := List.mem_of_getElem? (i := 436) (by decide +kernel)
set_option maxRecDepth 100000 in
theorem m_437 : Cond.code yX1_giveParent cX1_giveParent 3 none ∈ lw_tbl := List.mem_of_getElem? (i := 437) (by rfl)
set_option maxRecDepth 100000 in
theorem m_438 : Cond.methodLink RL 34 yX9_marries ∈ lw_tbl := List.mem_of_getElem? (i := 438) (by decide +kernel)
set_option maxRecDepth 100000 in
theorem m_439 : Cond.instanceMethod yX9_marries ∈ lw_tbl := List.mem_of_getElem? (i := 439) (by decide +kernel)
set_option maxRecDepth 100000 in
theorem m_440 : Cond.selects RX9 yX9_marries yX9_marries ∈ lw_tbl := List.mem_of_getElem? (i := 440) (by decide +kernel)
set_option maxRecDepth 100000 in
theorem m_441 : Cond.code yX9_marries cX9_marries 3 (some FieldType.int) ∈ lw_tbl := List.mem_of_getElem? (i := 441) (by rfl)
set_option maxRecDepth 100000 in
theorem m_442 : Cond.methodLink RX9 120 yX1_isFree ∈ lw_tbl := List.mem_of_getElem? (i := 442) (by decide +kernel)
set_option maxRecDepth 100000 in
theorem m_443 : Cond.instanceMethod yX1_isFree ∈ lw_tbl := List.mem_of_getElem? (i := 443) (by decide +kernel)
set_option maxRecDepth 100000 in
theorem m_444 : Cond.selects RX1 yX1_isFree yX1_isFree ∈ lw_tbl := List.mem_of_getElem? (i := 444) (by decide +kernel)
set_option maxRecDepth 100000 in
theorem m_445 : Cond.code yX1_isFree cX1_isFree 2 (some FieldType.boolean) ∈ lw_tbl := List.mem_of_getElem? (i := 445) (by rfl)
set_option maxRecDepth 100000 in
theorem m_446 : Cond.methodLink RX9 123 yX1_join ∈ lw_tbl := List.mem_of_getElem? (i := 446) (by decide +kernel)
set_option maxRecDepth 100000 in
theorem m_447 : Cond.instanceMethod yX1_join ∈ lw_tbl := List.mem_of_getElem? (i := 447) (by decide +kernel)
set_option maxRecDepth 100000 in
theorem m_448 : Cond.selects RX1 yX1_join yX1_join ∈ lw_tbl := List.mem_of_getElem? (i := 448) (by decide +kernel)
set_option maxRecDepth 100000 in
theorem m_449 : Cond.code yX1_join cX1_join 3 none ∈ lw_tbl := List.mem_of_getElem? (i := 449) (by rfl)
set_option maxRecDepth 100000 in
theorem m_450 : Cond.methodLink RX9 126 yX1_nearTo ∈ lw_tbl := List.mem_of_getElem? (i := 450) (by decide +kernel)
set_option maxRecDepth 100000 in
theorem m_451 : Cond.methodLink RL 38 yX9_parts ∈ lw_tbl := List.mem_of_getElem? (i := 451) (by decide +kernel)
set_option maxRecDepth 100000 in
theorem m_452 : Cond.instanceMethod yX9_parts ∈ lw_tbl := List.mem_of_getElem? (i := 452) (by decide +kernel)
set_option maxRecDepth 100000 in
theorem m_453 : Cond.selects RX9 yX9_parts yX9_parts ∈ lw_tbl := List.mem_of_getElem? (i := 453) (by decide +kernel)
set_option maxRecDepth 100000 in
theorem m_454 : Cond.code yX9_parts cX9_parts 3 (some FieldType.int) ∈ lw_tbl := List.mem_of_getElem? (i := 454) (by rfl)
set_option maxRecDepth 100000 in
theorem m_455 : Cond.methodLink RX9 129 yX1_part ∈ lw_tbl := List.mem_of_getElem? (i := 455) (by decide +kernel)
set_option maxRecDepth 100000 in
theorem m_456 : Cond.instanceMethod yX1_part ∈ lw_tbl := List.mem_of_getElem? (i := 456) (by decide +kernel)
set_option maxRecDepth 100000 in
theorem m_457 : Cond.selects RX1 yX1_part yX1_part ∈ lw_tbl := List.mem_of_getElem? (i := 457) (by decide +kernel)
set_option maxRecDepth 100000 in
theorem m_458 : Cond.code yX1_part cX1_part 3 none ∈ lw_tbl := List.mem_of_getElem? (i := 458) (by rfl)
set_option maxRecDepth 100000 in
theorem m_459 : Cond.methodLink RL 43 yX9_steps ∈ lw_tbl := List.mem_of_getElem? (i := 459) (by decide +kernel)
set_option maxRecDepth 100000 in
theorem m_460 : Cond.instanceMethod yX9_steps ∈ lw_tbl := List.mem_of_getElem? (i := 460) (by decide +kernel)
set_option maxRecDepth 100000 in
theorem m_461 : Cond.selects RX9 yX9_steps yX9_steps ∈ lw_tbl := List.mem_of_getElem? (i := 461) (by decide +kernel)
set_option maxRecDepth 100000 in
theorem m_462 : Cond.code yX9_steps cX9_steps 3 (some FieldType.int) ∈ lw_tbl := List.mem_of_getElem? (i := 462) (by rfl)
set_option maxRecDepth 100000 in
theorem m_463 : Cond.methodLink RX9 132 yX1_between ∈ lw_tbl := List.mem_of_getElem? (i := 463) (by decide +kernel)
set_option maxRecDepth 100000 in
theorem m_464 : Cond.methodLink RL 47 yX9_lets ∈ lw_tbl := List.mem_of_getElem? (i := 464) (by decide +kernel)
set_option maxRecDepth 100000 in
theorem m_465 : Cond.instanceMethod yX9_lets ∈ lw_tbl := List.mem_of_getElem? (i := 465) (by decide +kernel)
set_option maxRecDepth 100000 in
theorem m_466 : Cond.selects RX9 yX9_lets yX9_lets ∈ lw_tbl := List.mem_of_getElem? (i := 466) (by decide +kernel)
set_option maxRecDepth 100000 in
theorem m_467 : Cond.code yX9_lets cX9_lets 3 (some FieldType.int) ∈ lw_tbl := List.mem_of_getElem? (i := 467) (by rfl)
set_option maxRecDepth 100000 in
theorem m_468 : Cond.methodLink RX9 136 yX8_veilsOf ∈ lw_tbl := List.mem_of_getElem? (i := 468) (by decide +kernel)
set_option maxRecDepth 100000 in
theorem m_469 : Cond.instanceMethod yX8_veilsOf ∈ lw_tbl := List.mem_of_getElem? (i := 469) (by decide +kernel)
set_option maxRecDepth 100000 in
theorem m_470 : Cond.selects RX8 yX8_veilsOf yX8_veilsOf ∈ lw_tbl := List.mem_of_getElem? (i := 470) (by decide +kernel)
set_option maxRecDepth 100000 in
theorem m_471 : Cond.code yX8_veilsOf cX8_veilsOf 6 (some FieldType.int) ∈ lw_tbl := List.mem_of_getElem? (i := 471) (by rfl)
set_option maxRecDepth 100000 in
theorem m_472 : Cond.methodLink RX8 72 yX1_between ∈ lw_tbl := List.mem_of_getElem? (i := 472) (by decide +kernel)
set_option maxRecDepth 100000 in
theorem m_473 : Cond.methodLink RX8 81 yX2_letDown ∈ lw_tbl := List.mem_of_getElem? (i := 473) (by decide +kernel)
set_option maxRecDepth 100000 in
theorem m_474 : Cond.static yX2_letDown ∈ lw_tbl := List.mem_of_getElem? (i := 474) (by decide +kernel)
set_option maxRecDepth 100000 in
theorem m_475 : Cond.code yX2_letDown cX2_letDown 3 (some FieldType.int) ∈ lw_tbl := List.mem_of_getElem? (i := 475) (by rfl)
set_option maxRecDepth 100000 in
theorem m_476 : Cond.methodLink RX2 23 yX2_judged ∈ lw_tbl := List.mem_of_getElem? (i := 476) (by decide +kernel)
set_option maxRecDepth 100000 in
theorem m_477 : Cond.static yX2_judged ∈ lw_tbl := List.mem_of_getElem? (i := 477) (by decide +kernel)
set_option maxRecDepth 100000 in
theorem m_478 : Cond.code yX2_judged cX2_judged 1 (some FieldType.int) ∈ lw_tbl := List.mem_of_getElem? (i := 478) (by rfl)
set_option maxRecDepth 100000 in
theorem m_479 : Cond.methodLink RX2 26 Lib.Math.min.name ∈ lw_tbl := List.mem_of_getElem? (i := 479) (by decide +kernel)
set_option maxRecDepth 100000 in
theorem m_480 : Cond.methodLink RL 51 yX9_meets ∈ lw_tbl := List.mem_of_getElem? (i := 480) (by decide +kernel)
set_option maxRecDepth 100000 in
theorem m_481 : Cond.instanceMethod yX9_meets ∈ lw_tbl := List.mem_of_getElem? (i := 481) (by decide +kernel)
set_option maxRecDepth 100000 in
theorem m_482 : Cond.selects RX9 yX9_meets yX9_meets ∈ lw_tbl := List.mem_of_getElem? (i := 482) (by decide +kernel)
set_option maxRecDepth 100000 in
theorem m_483 : Cond.code yX9_meets cX9_meets 5 (some FieldType.int) ∈ lw_tbl := List.mem_of_getElem? (i := 483) (by rfl)
set_option maxRecDepth 100000 in
theorem m_484 : Cond.methodLink RX9 140 yX9_isNumber ∈ lw_tbl := List.mem_of_getElem? (i := 484) (by decide +kernel)
set_option maxRecDepth 100000 in
theorem m_485 : Cond.static yX9_isNumber ∈ lw_tbl := List.mem_of_getElem? (i := 485) (by decide +kernel)
set_option maxRecDepth 100000 in
theorem m_486 : Cond.code yX9_isNumber cX9_isNumber 1 (some FieldType.boolean) ∈ lw_tbl := List.mem_of_getElem? (i := 486) (by rfl)
set_option maxRecDepth 100000 in
theorem m_487 : Cond.methodLink RL 56 yX9_trade ∈ lw_tbl := List.mem_of_getElem? (i := 487) (by decide +kernel)
set_option maxRecDepth 100000 in
theorem m_488 : Cond.instanceMethod yX9_trade ∈ lw_tbl := List.mem_of_getElem? (i := 488) (by decide +kernel)
set_option maxRecDepth 100000 in
theorem m_489 : Cond.selects RX9 yX9_trade yX9_trade ∈ lw_tbl := List.mem_of_getElem? (i := 489) (by decide +kernel)
set_option maxRecDepth 100000 in
theorem m_490 : Cond.code yX9_trade cX9_trade 4 (some FieldType.int) ∈ lw_tbl := List.mem_of_getElem? (i := 490) (by rfl)
set_option maxRecDepth 100000 in
theorem m_491 : Cond.methodLink RL 62 yX9_feed ∈ lw_tbl := List.mem_of_getElem? (i := 491) (by decide +kernel)
set_option maxRecDepth 100000 in
theorem m_492 : Cond.instanceMethod yX9_feed ∈ lw_tbl := List.mem_of_getElem? (i := 492) (by decide +kernel)
set_option maxRecDepth 100000 in
theorem m_493 : Cond.selects RX9 yX9_feed yX9_feed ∈ lw_tbl := List.mem_of_getElem? (i := 493) (by decide +kernel)
set_option maxRecDepth 100000 in
theorem m_494 : Cond.code yX9_feed cX9_feed 5 (some FieldType.int) ∈ lw_tbl := List.mem_of_getElem? (i := 494) (by rfl)
set_option maxRecDepth 100000 in
theorem m_495 : Cond.methodLink RX9 155 yX4_hasRoom ∈ lw_tbl := List.mem_of_getElem? (i := 495) (by decide +kernel)
set_option maxRecDepth 100000 in
theorem m_496 : Cond.instanceMethod yX4_hasRoom ∈ lw_tbl := List.mem_of_getElem? (i := 496) (by decide +kernel)
set_option maxRecDepth 100000 in
theorem m_497 : Cond.selects RX4 yX4_hasRoom yX4_hasRoom ∈ lw_tbl := List.mem_of_getElem? (i := 497) (by decide +kernel)
set_option maxRecDepth 100000 in
theorem m_498 : Cond.code yX4_hasRoom cX4_hasRoom 2 (some FieldType.boolean) ∈ lw_tbl := List.mem_of_getElem? (i := 498) (by rfl)
set_option maxRecDepth 100000 in
theorem m_499 : Cond.methodLink RX9 160 yX4_add ∈ lw_tbl := List.mem_of_getElem? (i := 499) (by decide +kernel)
set_option maxRecDepth 100000 in
theorem m_500 : Cond.instanceMethod yX4_add ∈ lw_tbl := List.mem_of_getElem? (i := 500) (by decide +kernel)
set_option maxRecDepth 100000 in
theorem m_501 : Cond.selects RX4 yX4_add yX4_add ∈ lw_tbl := List.mem_of_getElem? (i := 501) (by decide +kernel)
set_option maxRecDepth 100000 in
theorem m_502 : Cond.code yX4_add cX4_add 2 none ∈ lw_tbl := List.mem_of_getElem? (i := 502) (by rfl)
set_option maxRecDepth 100000 in
theorem m_503 : Cond.methodLink RX9 163 yX4_size ∈ lw_tbl := List.mem_of_getElem? (i := 503) (by decide +kernel)
set_option maxRecDepth 100000 in
theorem m_504 : Cond.methodLink RL 67 yX9_text ∈ lw_tbl := List.mem_of_getElem? (i := 504) (by decide +kernel)
set_option maxRecDepth 100000 in
theorem m_505 : Cond.instanceMethod yX9_text ∈ lw_tbl := List.mem_of_getElem? (i := 505) (by decide +kernel)
set_option maxRecDepth 100000 in
theorem m_506 : Cond.selects RX9 yX9_text yX9_text ∈ lw_tbl := List.mem_of_getElem? (i := 506) (by decide +kernel)
set_option maxRecDepth 100000 in
theorem m_507 : Cond.code yX9_text cX9_text 3 (some FieldType.int) ∈ lw_tbl := List.mem_of_getElem? (i := 507) (by rfl)
set_option maxRecDepth 100000 in
theorem m_508 : Cond.methodLink RX9 167 yX9_isUse ∈ lw_tbl := List.mem_of_getElem? (i := 508) (by decide +kernel)
set_option maxRecDepth 100000 in
theorem m_509 : Cond.static yX9_isUse ∈ lw_tbl := List.mem_of_getElem? (i := 509) (by decide +kernel)
set_option maxRecDepth 100000 in
theorem m_510 : Cond.code yX9_isUse cX9_isUse 1 (some FieldType.boolean) ∈ lw_tbl := List.mem_of_getElem? (i := 510) (by rfl)
set_option maxRecDepth 100000 in
theorem m_511 : Cond.methodLink RX9 170 yX3_faultFor ∈ lw_tbl := List.mem_of_getElem? (i := 511) (by decide +kernel)
set_option maxRecDepth 100000 in
theorem m_512 : Cond.instanceMethod yX3_faultFor ∈ lw_tbl := List.mem_of_getElem? (i := 512) (by decide +kernel)
set_option maxRecDepth 100000 in
theorem m_513 : Cond.selects RX3 yX3_faultFor yX3_faultFor ∈ lw_tbl := List.mem_of_getElem? (i := 513) (by decide +kernel)
set_option maxRecDepth 100000 in
theorem m_514 : Cond.code yX3_faultFor cX3_faultFor 3 (some FieldType.int) ∈ lw_tbl := List.mem_of_getElem? (i := 514) (by rfl)
set_option maxRecDepth 100000 in
theorem m_515 : Cond.stringRef RX3 33 "eyc" ∈ lw_tbl := List.mem_of_getElem? (i := 515) (by decide +kernel)
set_option maxRecDepth 100000 in
theorem m_516 : Cond.methodLink RX3 35 yX4_clear ∈ lw_tbl := List.mem_of_getElem? (i := 516) (by decide +kernel)
set_option maxRecDepth 100000 in
theorem m_517 : Cond.instanceMethod yX4_clear ∈ lw_tbl := List.mem_of_getElem? (i := 517) (by decide +kernel)
set_option maxRecDepth 100000 in
theorem m_518 : Cond.selects RX4 yX4_clear yX4_clear ∈ lw_tbl := List.mem_of_getElem? (i := 518) (by decide +kernel)
set_option maxRecDepth 100000 in
theorem m_519 : Cond.code yX4_clear cX4_clear 1 none ∈ lw_tbl := List.mem_of_getElem? (i := 519) (by rfl)
set_option maxRecDepth 100000 in
theorem m_520 : Cond.methodLink RX3 38 yX3_readsLevel ∈ lw_tbl := List.mem_of_getElem? (i := 520) (by decide +kernel)
set_option maxRecDepth 100000 in
theorem m_522 : Cond.instanceMethod yX3_readsLevel ∈ lw_tbl := List.mem_of_getElem? (i := 522) (by decide +kernel)
set_option maxRecDepth 100000 in
theorem m_523 : Cond.code yX3_readsLevel cX3_readsLevel 4 (some FieldType.boolean) ∈ lw_tbl := List.mem_of_getElem? (i := 523) (by rfl)
set_option maxRecDepth 100000 in
theorem m_524 : Cond.methodLink RX3 46 yX3_readsUnit ∈ lw_tbl := List.mem_of_getElem? (i := 524) (by decide +kernel)
set_option maxRecDepth 100000 in
theorem m_526 : Cond.instanceMethod yX3_readsUnit ∈ lw_tbl := List.mem_of_getElem? (i := 526) (by decide +kernel)
set_option maxRecDepth 100000 in
theorem m_527 : Cond.code yX3_readsUnit cX3_readsUnit 4 (some FieldType.boolean) ∈ lw_tbl := List.mem_of_getElem? (i := 527) (by rfl)
set_option maxRecDepth 100000 in
theorem m_528 : Cond.methodLink RX3 50 yX4_at ∈ lw_tbl := List.mem_of_getElem? (i := 528) (by decide +kernel)
set_option maxRecDepth 100000 in
theorem m_529 : Cond.methodLink RX3 61 yX3_isDigit ∈ lw_tbl := List.mem_of_getElem? (i := 529) (by decide +kernel)
set_option maxRecDepth 100000 in
theorem m_530 : Cond.static yX3_isDigit ∈ lw_tbl := List.mem_of_getElem? (i := 530) (by decide +kernel)
set_option maxRecDepth 100000 in
theorem m_531 : Cond.code yX3_isDigit cX3_isDigit 1 (some FieldType.boolean) ∈ lw_tbl := List.mem_of_getElem? (i := 531) (by rfl)
set_option maxRecDepth 100000 in
theorem m_532 : Cond.methodLink RX3 64 yX3_readNumber ∈ lw_tbl := List.mem_of_getElem? (i := 532) (by decide +kernel)
set_option maxRecDepth 100000 in
theorem m_534 : Cond.instanceMethod yX3_readNumber ∈ lw_tbl := List.mem_of_getElem? (i := 534) (by decide +kernel)
set_option maxRecDepth 100000 in
theorem m_535 : Cond.code yX3_readNumber cX3_readNumber 3 none ∈ lw_tbl := List.mem_of_getElem? (i := 535) (by rfl)
set_option maxRecDepth 100000 in
theorem m_536 : Cond.methodLink RX3 58 yX4_add ∈ lw_tbl := List.mem_of_getElem? (i := 536) (by decide +kernel)
set_option maxRecDepth 100000 in
theorem m_537 : Cond.methodLink RX3 67 yJ0_indexOf_0f7a4 ∈ lw_tbl := List.mem_of_getElem? (i := 537) (by decide +kernel)
set_option maxRecDepth 100000 in
theorem m_538 : Cond.instanceMethod yJ0_indexOf_0f7a4 ∈ lw_tbl := List.mem_of_getElem? (i := 538) (by decide +kernel)
set_option maxRecDepth 100000 in
theorem m_539 : Cond.selects RJ0 yJ0_indexOf_0f7a4 yJ0_indexOf_0f7a4 ∈ lw_tbl := List.mem_of_getElem? (i := 539) (by decide +kernel)
set_option maxRecDepth 100000 in
theorem m_540 : Cond.code yJ0_indexOf_0f7a4 cJ0_indexOf_0f7a4 2 (some FieldType.int) ∈ lw_tbl := List.mem_of_getElem? (i := 540) (by rfl)
set_option maxRecDepth 100000 in
theorem m_541 : Cond.methodLink RJ0 633 yJ0_indexOf_7cf53 ∈ lw_tbl := List.mem_of_getElem? (i := 541) (by decide +kernel)
set_option maxRecDepth 100000 in
theorem m_542 : Cond.instanceMethod yJ0_indexOf_7cf53 ∈ lw_tbl := List.mem_of_getElem? (i := 542) (by decide +kernel)
set_option maxRecDepth 100000 in
theorem m_543 : Cond.selects RJ0 yJ0_indexOf_7cf53 yJ0_indexOf_7cf53 ∈ lw_tbl := List.mem_of_getElem? (i := 543) (by decide +kernel)
set_option maxRecDepth 100000 in
theorem m_544 : Cond.code yJ0_indexOf_7cf53 cJ0_indexOf_7cf53 3 (some FieldType.int) ∈ lw_tbl := List.mem_of_getElem? (i := 544) (by rfl)
set_option maxRecDepth 100000 in
theorem m_545 : Cond.methodLink RJ0 492 yJ0_isLatin1_aae02 ∈ lw_tbl := List.mem_of_getElem? (i := 545) (by decide +kernel)
set_option maxRecDepth 100000 in
theorem m_546 : Cond.instanceMethod yJ0_isLatin1_aae02 ∈ lw_tbl := List.mem_of_getElem? (i := 546) (by decide +kernel)
set_option maxRecDepth 100000 in
theorem m_547 : Cond.selects RJ0 yJ0_isLatin1_aae02 yJ0_isLatin1_aae02 ∈ lw_tbl := List.mem_of_getElem? (i := 547) (by decide +kernel)
set_option maxRecDepth 100000 in
theorem m_548 : Cond.code yJ0_isLatin1_aae02 cJ0_isLatin1_aae02 1 (some FieldType.boolean) ∈ lw_tbl := List.mem_of_getElem? (i := 548) (by rfl)
set_option maxRecDepth 100000 in
theorem m_549 : Cond.fieldLink RJ0 38 "java/lang/String" "COMPACT_STRINGS" "Z" ∈ lw_tbl := List.mem_of_getElem? (i := 549) (by decide +kernel)
set_option maxRecDepth 100000 in
theorem m_550 : Cond.laysStatic "java/lang/String" "COMPACT_STRINGS" "Z" ∈ lw_tbl := List.mem_of_getElem? (i := 550) (by decide +kernel)
set_option maxRecDepth 100000 in
theorem m_551 : Cond.methodLink RJ0 505 yJ0_length_8abf5 ∈ lw_tbl := List.mem_of_getElem? (i := 551) (by decide +kernel)
set_option maxRecDepth 100000 in
theorem m_552 : Cond.instanceMethod yJ0_length_8abf5 ∈ lw_tbl := List.mem_of_getElem? (i := 552) (by decide +kernel)
set_option maxRecDepth 100000 in
theorem m_553 : Cond.selects RJ0 yJ0_length_8abf5 yJ0_length_8abf5 ∈ lw_tbl := List.mem_of_getElem? (i := 553) (by decide +kernel)
set_option maxRecDepth 100000 in
theorem m_554 : Cond.code yJ0_length_8abf5 cJ0_length_8abf5 1 (some FieldType.int) ∈ lw_tbl := List.mem_of_getElem? (i := 554) (by rfl)
set_option maxRecDepth 100000 in
theorem m_555 : Cond.methodLink RJ0 335 yJ0_coder_7d493 ∈ lw_tbl := List.mem_of_getElem? (i := 555) (by decide +kernel)
set_option maxRecDepth 100000 in
theorem m_556 : Cond.instanceMethod yJ0_coder_7d493 ∈ lw_tbl := List.mem_of_getElem? (i := 556) (by decide +kernel)
set_option maxRecDepth 100000 in
theorem m_557 : Cond.selects RJ0 yJ0_coder_7d493 yJ0_coder_7d493 ∈ lw_tbl := List.mem_of_getElem? (i := 557) (by decide +kernel)
set_option maxRecDepth 100000 in
theorem m_558 : Cond.code yJ0_coder_7d493 cJ0_coder_7d493 1 (some FieldType.byte) ∈ lw_tbl := List.mem_of_getElem? (i := 558) (by rfl)
set_option maxRecDepth 100000 in
theorem m_559 : Cond.methodLink RJ0 637 yJ1_indexOf_4cfef ∈ lw_tbl := List.mem_of_getElem? (i := 559) (by decide +kernel)
set_option maxRecDepth 100000 in
theorem m_560 : Cond.static yJ1_indexOf_4cfef ∈ lw_tbl := List.mem_of_getElem? (i := 560) (by decide +kernel)
set_option maxRecDepth 100000 in
theorem m_561 : Cond.code yJ1_indexOf_4cfef cJ1_indexOf_4cfef 4 (some FieldType.int) ∈ lw_tbl := List.mem_of_getElem? (i := 561) (by rfl)
set_option maxRecDepth 100000 in
theorem m_562 : Cond.methodLink RJ1 88 yJ1_canEncode_9a6ad ∈ lw_tbl := List.mem_of_getElem? (i := 562) (by decide +kernel)
set_option maxRecDepth 100000 in
theorem m_563 : Cond.static yJ1_canEncode_9a6ad ∈ lw_tbl := List.mem_of_getElem? (i := 563) (by decide +kernel)
set_option maxRecDepth 100000 in
theorem m_564 : Cond.code yJ1_canEncode_9a6ad cJ1_canEncode_9a6ad 1 (some FieldType.boolean) ∈ lw_tbl := List.mem_of_getElem? (i := 564) (by rfl)
set_option maxRecDepth 100000 in
theorem m_565 : Cond.methodLink RJ1 92 Lib.Math.max.name ∈ lw_tbl := List.mem_of_getElem? (i := 565) (by decide +kernel)
set_option maxRecDepth 100000 in
theorem m_566 : Cond.methodLink RJ1 38 Lib.Math.min.name ∈ lw_tbl := List.mem_of_getElem? (i := 566) (by decide +kernel)
set_option maxRecDepth 100000 in
theorem m_567 : Cond.methodLink RJ1 95 yJ1_indexOfChar_4cfef ∈ lw_tbl := List.mem_of_getElem? (i := 567) (by decide +kernel)
set_option maxRecDepth 100000 in
theorem m_568 : Cond.static yJ1_indexOfChar_4cfef ∈ lw_tbl := List.mem_of_getElem? (i := 568) (by decide +kernel)
set_option maxRecDepth 100000 in
theorem m_569 : Cond.code yJ1_indexOfChar_4cfef cJ1_indexOfChar_4cfef 6 (some FieldType.int) ∈ lw_tbl := List.mem_of_getElem? (i := 569) (by rfl)
set_option maxRecDepth 100000 in
theorem m_570 : Cond.methodLink RJ0 640 yJ2_indexOf_4cfef ∈ lw_tbl := List.mem_of_getElem? (i := 570) (by decide +kernel)
set_option maxRecDepth 100000 in
theorem m_571 : Cond.static yJ2_indexOf_4cfef ∈ lw_tbl := List.mem_of_getElem? (i := 571) (by decide +kernel)
set_option maxRecDepth 100000 in
theorem m_572 : Cond.code yJ2_indexOf_4cfef cJ2_indexOf_4cfef 4 (some FieldType.int) ∈ lw_tbl := List.mem_of_getElem? (i := 572) (by rfl)
set_option maxRecDepth 100000 in
theorem m_573 : Cond.methodLink RJ2 224 Lib.Math.max.name ∈ lw_tbl := List.mem_of_getElem? (i := 573) (by decide +kernel)
set_option maxRecDepth 100000 in
theorem m_574 : Cond.methodLink RJ2 183 Lib.Math.min.name ∈ lw_tbl := List.mem_of_getElem? (i := 574) (by decide +kernel)
set_option maxRecDepth 100000 in
theorem m_575 : Cond.constant RJ2 227 65536 ∈ lw_tbl := List.mem_of_getElem? (i := 575) (by decide +kernel)
set_option maxRecDepth 100000 in
theorem m_576 : Cond.methodLink RJ2 228 yJ2_indexOfChar_4cfef ∈ lw_tbl := List.mem_of_getElem? (i := 576) (by decide +kernel)
set_option maxRecDepth 100000 in
theorem m_577 : Cond.static yJ2_indexOfChar_4cfef ∈ lw_tbl := List.mem_of_getElem? (i := 577) (by decide +kernel)
set_option maxRecDepth 100000 in
theorem m_578 : Cond.code yJ2_indexOfChar_4cfef cJ2_indexOfChar_4cfef 4 (some FieldType.int) ∈ lw_tbl := List.mem_of_getElem? (i := 578) (by rfl)
set_option maxRecDepth 100000 in
theorem m_579 : Cond.methodLink RJ2 96 yJ2_checkBoundsBeginEnd_d044e ∈ lw_tbl := List.mem_of_getElem? (i := 579) (by decide +kernel)
set_option maxRecDepth 100000 in
theorem m_580 : Cond.static yJ2_checkBoundsBeginEnd_d044e ∈ lw_tbl := List.mem_of_getElem? (i := 580) (by decide +kernel)
set_option maxRecDepth 100000 in
theorem m_581 : Cond.code yJ2_checkBoundsBeginEnd_d044e cJ2_checkBoundsBeginEnd_d044e 3 none ∈ lw_tbl := List.mem_of_getElem? (i := 581) (by rfl)
set_option maxRecDepth 100000 in
theorem m_582 : Cond.methodLink RJ2 48 yJ2_length_9d52b ∈ lw_tbl := List.mem_of_getElem? (i := 582) (by decide +kernel)
set_option maxRecDepth 100000 in
theorem m_583 : Cond.static yJ2_length_9d52b ∈ lw_tbl := List.mem_of_getElem? (i := 583) (by decide +kernel)
set_option maxRecDepth 100000 in
theorem m_584 : Cond.code yJ2_length_9d52b cJ2_length_9d52b 1 (some FieldType.int) ∈ lw_tbl := List.mem_of_getElem? (i := 584) (by rfl)
set_option maxRecDepth 100000 in
theorem m_585 : Cond.methodLink RJ2 241 yJ0_checkBoundsBeginEnd_23922 ∈ lw_tbl := List.mem_of_getElem? (i := 585) (by decide +kernel)
set_option maxRecDepth 100000 in
theorem m_586 : Cond.static yJ0_checkBoundsBeginEnd_23922 ∈ lw_tbl := List.mem_of_getElem? (i := 586) (by decide +kernel)
set_option maxRecDepth 100000 in
theorem m_587 : Cond.code yJ0_checkBoundsBeginEnd_23922 cJ0_checkBoundsBeginEnd_23922 3 none ∈ lw_tbl := List.mem_of_getElem? (i := 587) (by rfl)
set_option maxRecDepth 100000 in
theorem m_588 : Cond.fieldLink RJ0 1053 "jdk/internal/util/Preconditions" "SIOOBE_FORMATTER" "Ljava/util/function/BiFunction;" ∈ lw_tbl := List.mem_of_getElem? (i := 588) (by decide +kernel)
set_option maxRecDepth 100000 in
theorem m_589 : Cond.laysStatic "jdk/internal/util/Preconditions" "SIOOBE_FORMATTER" "Ljava/util/function/BiFunction;" ∈ lw_tbl := List.mem_of_getElem? (i := 589) (by decide +kernel)
set_option maxRecDepth 100000 in
theorem m_590 : Cond.methodLink RJ0 1062 yJ3_checkFromToIndex_8c36e ∈ lw_tbl := List.mem_of_getElem? (i := 590) (by decide +kernel)
set_option maxRecDepth 100000 in
theorem m_591 : Cond.static yJ3_checkFromToIndex_8c36e ∈ lw_tbl := List.mem_of_getElem? (i := 591) (by decide +kernel)
set_option maxRecDepth 100000 in
theorem m_592 : Cond.code yJ3_checkFromToIndex_8c36e cJ3_checkFromToIndex_8c36e 4 (some FieldType.int) ∈ lw_tbl := List.mem_of_getElem? (i := 592) (by rfl)
set_option maxRecDepth 100000 in
theorem m_593 : Cond.methodLink RJ2 244 yJ2_indexOfCharUnsafe_4cfef ∈ lw_tbl := List.mem_of_getElem? (i := 593) (by decide +kernel)
set_option maxRecDepth 100000 in
theorem m_594 : Cond.static yJ2_indexOfCharUnsafe_4cfef ∈ lw_tbl := List.mem_of_getElem? (i := 594) (by decide +kernel)
set_option maxRecDepth 100000 in
theorem m_595 : Cond.code yJ2_indexOfCharUnsafe_4cfef cJ2_indexOfCharUnsafe_4cfef 5 (some FieldType.int) ∈ lw_tbl := List.mem_of_getElem? (i := 595) (by rfl)
set_option maxRecDepth 100000 in
theorem m_596 : Cond.methodLink RJ2 71 yJ2_getChar_3b067 ∈ lw_tbl := List.mem_of_getElem? (i := 596) (by decide +kernel)
set_option maxRecDepth 100000 in
theorem m_597 : Cond.static yJ2_getChar_3b067 ∈ lw_tbl := List.mem_of_getElem? (i := 597) (by decide +kernel)
set_option maxRecDepth 100000 in
theorem m_598 : Cond.code yJ2_getChar_3b067 cJ2_getChar_3b067 2 (some FieldType.char) ∈ lw_tbl := List.mem_of_getElem? (i := 598) (by rfl)
set_option maxRecDepth 100000 in
theorem m_599 : Cond.fieldLink RJ2 44 "java/lang/StringUTF16" "$assertionsDisabled" "Z" ∈ lw_tbl := List.mem_of_getElem? (i := 599) (by decide +kernel)
set_option maxRecDepth 100000 in
theorem m_600 : Cond.laysStatic "java/lang/StringUTF16" "$assertionsDisabled" "Z" ∈ lw_tbl := List.mem_of_getElem? (i := 600) (by decide +kernel)
set_option maxRecDepth 100000 in
theorem m_601 : Cond.fieldLink RJ2 59 "java/lang/StringUTF16" "HI_BYTE_SHIFT" "I" ∈ lw_tbl := List.mem_of_getElem? (i := 601) (by decide +kernel)
set_option maxRecDepth 100000 in
theorem m_602 : Cond.laysStatic "java/lang/StringUTF16" "HI_BYTE_SHIFT" "I" ∈ lw_tbl := List.mem_of_getElem? (i := 602) (by decide +kernel)
set_option maxRecDepth 100000 in
theorem m_603 : Cond.fieldLink RJ2 63 "java/lang/StringUTF16" "LO_BYTE_SHIFT" "I" ∈ lw_tbl := List.mem_of_getElem? (i := 603) (by decide +kernel)
set_option maxRecDepth 100000 in
theorem m_604 : Cond.laysStatic "java/lang/StringUTF16" "LO_BYTE_SHIFT" "I" ∈ lw_tbl := List.mem_of_getElem? (i := 604) (by decide +kernel)
set_option maxRecDepth 100000 in
theorem m_605 : Cond.methodLink RJ2 232 yJ2_indexOfSupplementary_4cfef ∈ lw_tbl := List.mem_of_getElem? (i := 605) (by decide +kernel)
set_option maxRecDepth 100000 in
theorem m_606 : Cond.static yJ2_indexOfSupplementary_4cfef ∈ lw_tbl := List.mem_of_getElem? (i := 606) (by decide +kernel)
set_option maxRecDepth 100000 in
theorem m_607 : Cond.code yJ2_indexOfSupplementary_4cfef cJ2_indexOfSupplementary_4cfef 7 (some FieldType.int) ∈ lw_tbl := List.mem_of_getElem? (i := 607) (by rfl)
set_option maxRecDepth 100000 in
theorem m_608 : Cond.methodLink RJ2 164 yJ11_isValidCodePoint_9a6ad ∈ lw_tbl := List.mem_of_getElem? (i := 608) (by decide +kernel)
set_option maxRecDepth 100000 in
theorem m_609 : Cond.static yJ11_isValidCodePoint_9a6ad ∈ lw_tbl := List.mem_of_getElem? (i := 609) (by decide +kernel)
set_option maxRecDepth 100000 in
theorem m_610 : Cond.code yJ11_isValidCodePoint_9a6ad cJ11_isValidCodePoint_9a6ad 2 (some FieldType.boolean) ∈ lw_tbl := List.mem_of_getElem? (i := 610) (by rfl)
set_option maxRecDepth 100000 in
theorem m_611 : Cond.methodLink RJ2 157 yJ11_highSurrogate_5068e ∈ lw_tbl := List.mem_of_getElem? (i := 611) (by decide +kernel)
set_option maxRecDepth 100000 in
theorem m_612 : Cond.static yJ11_highSurrogate_5068e ∈ lw_tbl := List.mem_of_getElem? (i := 612) (by decide +kernel)
set_option maxRecDepth 100000 in
theorem m_613 : Cond.code yJ11_highSurrogate_5068e cJ11_highSurrogate_5068e 1 (some FieldType.char) ∈ lw_tbl := List.mem_of_getElem? (i := 613) (by rfl)
set_option maxRecDepth 100000 in
theorem m_614 : Cond.constant RJ11 110 55232 ∈ lw_tbl := List.mem_of_getElem? (i := 614) (by decide +kernel)
set_option maxRecDepth 100000 in
theorem m_615 : Cond.methodLink RJ2 161 yJ11_lowSurrogate_5068e ∈ lw_tbl := List.mem_of_getElem? (i := 615) (by decide +kernel)
set_option maxRecDepth 100000 in
theorem m_616 : Cond.static yJ11_lowSurrogate_5068e ∈ lw_tbl := List.mem_of_getElem? (i := 616) (by decide +kernel)
set_option maxRecDepth 100000 in
theorem m_617 : Cond.code yJ11_lowSurrogate_5068e cJ11_lowSurrogate_5068e 1 (some FieldType.char) ∈ lw_tbl := List.mem_of_getElem? (i := 617) (by rfl)
set_option maxRecDepth 100000 in
theorem m_618 : Cond.constant RJ11 76 56320 ∈ lw_tbl := List.mem_of_getElem? (i := 618) (by decide +kernel)
set_option maxRecDepth 100000 in
theorem m_619 : Cond.methodLink RX3 72 yX3_readsDenied ∈ lw_tbl := List.mem_of_getElem? (i := 619) (by decide +kernel)
set_option maxRecDepth 100000 in
theorem m_621 : Cond.instanceMethod yX3_readsDenied ∈ lw_tbl := List.mem_of_getElem? (i := 621) (by decide +kernel)
set_option maxRecDepth 100000 in
theorem m_622 : Cond.code yX3_readsDenied cX3_readsDenied 2 (some FieldType.boolean) ∈ lw_tbl := List.mem_of_getElem? (i := 622) (by rfl)
set_option maxRecDepth 100000 in
theorem m_623 : Cond.methodLink RX3 75 yX3_readsClosed ∈ lw_tbl := List.mem_of_getElem? (i := 623) (by decide +kernel)
set_option maxRecDepth 100000 in
theorem m_625 : Cond.instanceMethod yX3_readsClosed ∈ lw_tbl := List.mem_of_getElem? (i := 625) (by decide +kernel)
set_option maxRecDepth 100000 in
theorem m_626 : Cond.code yX3_readsClosed cX3_readsClosed 2 (some FieldType.boolean) ∈ lw_tbl := List.mem_of_getElem? (i := 626) (by rfl)
set_option maxRecDepth 100000 in
theorem m_627 : Cond.methodLink RX3 42 yX4_size ∈ lw_tbl := List.mem_of_getElem? (i := 627) (by decide +kernel)
set_option maxRecDepth 100000 in
theorem m_628 : Cond.methodLink RX3 53 yX3_levelOf ∈ lw_tbl := List.mem_of_getElem? (i := 628) (by decide +kernel)
set_option maxRecDepth 100000 in
theorem m_629 : Cond.static yX3_levelOf ∈ lw_tbl := List.mem_of_getElem? (i := 629) (by decide +kernel)
set_option maxRecDepth 100000 in
theorem m_630 : Cond.code yX3_levelOf cX3_levelOf 1 (some FieldType.int) ∈ lw_tbl := List.mem_of_getElem? (i := 630) (by rfl)
set_option maxRecDepth 100000 in
theorem m_631 : Cond.methodLink RX9 173 yX4_clear ∈ lw_tbl := List.mem_of_getElem? (i := 631) (by decide +kernel)
set_option maxRecDepth 100000 in
theorem m_632 : Cond.methodLink RX9 186 yX4_copy ∈ lw_tbl := List.mem_of_getElem? (i := 632) (by decide +kernel)
set_option maxRecDepth 100000 in
theorem m_633 : Cond.instanceMethod yX4_copy ∈ lw_tbl := List.mem_of_getElem? (i := 633) (by decide +kernel)
set_option maxRecDepth 100000 in
theorem m_634 : Cond.selects RX4 yX4_copy yX4_copy ∈ lw_tbl := List.mem_of_getElem? (i := 634) (by decide +kernel)
set_option maxRecDepth 100000 in
theorem m_635 : Cond.code yX4_copy cX4_copy 2 none ∈ lw_tbl := List.mem_of_getElem? (i := 635) (by rfl)
set_option maxRecDepth 100000 in
theorem m_636 : Cond.methodLink RX4 27 Lib.Math.min.name ∈ lw_tbl := List.mem_of_getElem? (i := 636) (by decide +kernel)
set_option maxRecDepth 100000 in
theorem m_637 : Cond.methodLink RX4 30 arraycopyName ∈ lw_tbl := List.mem_of_getElem? (i := 637) (by decide +kernel)
set_option maxRecDepth 100000 in
theorem m_638 : Cond.static arraycopyName ∈ lw_tbl := List.mem_of_getElem? (i := 638) (by decide +kernel)
set_option maxRecDepth 100000 in
theorem m_639 : Cond.native arraycopyName ∈ lw_tbl := List.mem_of_getElem? (i := 639) (by decide +kernel)
set_option maxRecDepth 100000 in
theorem m_640 : Cond.methodLink RL 71 yX9_untell ∈ lw_tbl := List.mem_of_getElem? (i := 640) (by decide +kernel)
set_option maxRecDepth 100000 in
theorem m_641 : Cond.instanceMethod yX9_untell ∈ lw_tbl := List.mem_of_getElem? (i := 641) (by decide +kernel)
set_option maxRecDepth 100000 in
theorem m_642 : Cond.selects RX9 yX9_untell yX9_untell ∈ lw_tbl := List.mem_of_getElem? (i := 642) (by decide +kernel)
set_option maxRecDepth 100000 in
theorem m_643 : Cond.code yX9_untell cX9_untell 3 (some FieldType.int) ∈ lw_tbl := List.mem_of_getElem? (i := 643) (by rfl)
set_option maxRecDepth 100000 in
theorem m_644 : Cond.methodLink RX9 189 yX6_isGiven ∈ lw_tbl := List.mem_of_getElem? (i := 644) (by decide +kernel)
set_option maxRecDepth 100000 in
theorem m_645 : Cond.methodLink RL 75 yX9_law ∈ lw_tbl := List.mem_of_getElem? (i := 645) (by decide +kernel)
set_option maxRecDepth 100000 in
theorem m_646 : Cond.instanceMethod yX9_law ∈ lw_tbl := List.mem_of_getElem? (i := 646) (by decide +kernel)
set_option maxRecDepth 100000 in
theorem m_647 : Cond.selects RX9 yX9_law yX9_law ∈ lw_tbl := List.mem_of_getElem? (i := 647) (by decide +kernel)
set_option maxRecDepth 100000 in
theorem m_648 : Cond.code yX9_law cX9_law 5 (some FieldType.int) ∈ lw_tbl := List.mem_of_getElem? (i := 648) (by rfl)
set_option maxRecDepth 100000 in
theorem m_649 : Cond.methodLink RX9 193 yX8_gives ∈ lw_tbl := List.mem_of_getElem? (i := 649) (by decide +kernel)
set_option maxRecDepth 100000 in
theorem m_650 : Cond.methodLink RL 80 yX9_years ∈ lw_tbl := List.mem_of_getElem? (i := 650) (by decide +kernel)
set_option maxRecDepth 100000 in
theorem m_651 : Cond.instanceMethod yX9_years ∈ lw_tbl := List.mem_of_getElem? (i := 651) (by decide +kernel)
set_option maxRecDepth 100000 in
theorem m_652 : Cond.selects RX9 yX9_years yX9_years ∈ lw_tbl := List.mem_of_getElem? (i := 652) (by decide +kernel)
set_option maxRecDepth 100000 in
theorem m_653 : Cond.code yX9_years cX9_years 2 (some FieldType.int) ∈ lw_tbl := List.mem_of_getElem? (i := 653) (by rfl)
set_option maxRecDepth 100000 in
theorem m_654 : Cond.methodLink RX9 200 yX8_passYears ∈ lw_tbl := List.mem_of_getElem? (i := 654) (by decide +kernel)
set_option maxRecDepth 100000 in
theorem m_655 : Cond.instanceMethod yX8_passYears ∈ lw_tbl := List.mem_of_getElem? (i := 655) (by decide +kernel)
set_option maxRecDepth 100000 in
theorem m_656 : Cond.selects RX8 yX8_passYears yX8_passYears ∈ lw_tbl := List.mem_of_getElem? (i := 656) (by decide +kernel)
set_option maxRecDepth 100000 in
theorem m_657 : Cond.code yX8_passYears cX8_passYears 5 none ∈ lw_tbl := List.mem_of_getElem? (i := 657) (by rfl)
set_option maxRecDepth 100000 in
theorem m_658 : Cond.methodLink RX8 103 yX8_placeOf ∈ lw_tbl := List.mem_of_getElem? (i := 658) (by decide +kernel)
set_option maxRecDepth 100000 in
theorem m_659 : Cond.static yX8_placeOf ∈ lw_tbl := List.mem_of_getElem? (i := 659) (by decide +kernel)
set_option maxRecDepth 100000 in
theorem m_660 : Cond.code yX8_placeOf cX8_placeOf 1 (some FieldType.int) ∈ lw_tbl := List.mem_of_getElem? (i := 660) (by rfl)
set_option maxRecDepth 100000 in
theorem m_661 : Cond.methodLink RX8 133 yJ9_floorMod_7cf53 ∈ lw_tbl := List.mem_of_getElem? (i := 661) (by decide +kernel)
set_option maxRecDepth 100000 in
theorem m_662 : Cond.static yJ9_floorMod_7cf53 ∈ lw_tbl := List.mem_of_getElem? (i := 662) (by decide +kernel)
set_option maxRecDepth 100000 in
theorem m_663 : Cond.code yJ9_floorMod_7cf53 cJ9_floorMod_7cf53 3 (some FieldType.int) ∈ lw_tbl := List.mem_of_getElem? (i := 663) (by rfl)
set_option maxRecDepth 100000 in
theorem m_664 : Cond.methodLink RX8 106 yX8_passYear ∈ lw_tbl := List.mem_of_getElem? (i := 664) (by decide +kernel)
set_option maxRecDepth 100000 in
theorem m_666 : Cond.instanceMethod yX8_passYear ∈ lw_tbl := List.mem_of_getElem? (i := 666) (by decide +kernel)
set_option maxRecDepth 100000 in
theorem m_667 : Cond.code yX8_passYear cX8_passYear 5 none ∈ lw_tbl := List.mem_of_getElem? (i := 667) (by rfl)
set_option maxRecDepth 100000 in
theorem m_668 : Cond.methodLink RX8 110 yX1_has ∈ lw_tbl := List.mem_of_getElem? (i := 668) (by decide +kernel)
set_option maxRecDepth 100000 in
theorem m_669 : Cond.methodLink RX8 114 yX8_veilsOf ∈ lw_tbl := List.mem_of_getElem? (i := 669) (by decide +kernel)
set_option maxRecDepth 100000 in
theorem m_670 : Cond.methodLink RX8 118 yX8_sightOf ∈ lw_tbl := List.mem_of_getElem? (i := 670) (by decide +kernel)
set_option maxRecDepth 100000 in
theorem m_671 : Cond.methodLink RX9 204 yX0_seenTogether ∈ lw_tbl := List.mem_of_getElem? (i := 671) (by decide +kernel)
set_option maxRecDepth 100000 in
theorem m_672 : Cond.instanceMethod yX0_seenTogether ∈ lw_tbl := List.mem_of_getElem? (i := 672) (by decide +kernel)
set_option maxRecDepth 100000 in
theorem m_673 : Cond.selects RX0 yX0_seenTogether yX0_seenTogether ∈ lw_tbl := List.mem_of_getElem? (i := 673) (by decide +kernel)
set_option maxRecDepth 100000 in
theorem m_674 : Cond.code yX0_seenTogether cX0_seenTogether 3 (some FieldType.int) ∈ lw_tbl := List.mem_of_getElem? (i := 674) (by rfl)
set_option maxRecDepth 100000 in
theorem m_675 : Cond.methodLink RX0 25 yJ6_bitCount_0f7a4 ∈ lw_tbl := List.mem_of_getElem? (i := 675) (by decide +kernel)
set_option maxRecDepth 100000 in
theorem m_676 : Cond.static yJ6_bitCount_0f7a4 ∈ lw_tbl := List.mem_of_getElem? (i := 676) (by decide +kernel)
set_option maxRecDepth 100000 in
theorem m_677 : Cond.code yJ6_bitCount_0f7a4 cJ6_bitCount_0f7a4 1 (some FieldType.int) ∈ lw_tbl := List.mem_of_getElem? (i := 677) (by rfl)
set_option maxRecDepth 100000 in
theorem m_678 : Cond.constant RJ6 265 1431655765 ∈ lw_tbl := List.mem_of_getElem? (i := 678) (by decide +kernel)
set_option maxRecDepth 100000 in
theorem m_679 : Cond.constant RJ6 266 858993459 ∈ lw_tbl := List.mem_of_getElem? (i := 679) (by decide +kernel)
set_option maxRecDepth 100000 in
theorem m_680 : Cond.constant RJ6 267 252645135 ∈ lw_tbl := List.mem_of_getElem? (i := 680) (by decide +kernel)
set_option maxRecDepth 100000 in
theorem m_681 : Cond.methodLink RL 84 yX9_loose ∈ lw_tbl := List.mem_of_getElem? (i := 681) (by decide +kernel)
set_option maxRecDepth 100000 in
theorem m_682 : Cond.instanceMethod yX9_loose ∈ lw_tbl := List.mem_of_getElem? (i := 682) (by decide +kernel)
set_option maxRecDepth 100000 in
theorem m_683 : Cond.selects RX9 yX9_loose yX9_loose ∈ lw_tbl := List.mem_of_getElem? (i := 683) (by decide +kernel)
set_option maxRecDepth 100000 in
theorem m_684 : Cond.code yX9_loose cX9_loose 3 (some FieldType.int) ∈ lw_tbl := List.mem_of_getElem? (i := 684) (by rfl)
set_option maxRecDepth 100000 in
theorem m_685 : Cond.methodLink RX9 207 yX8_drawMeeting ∈ lw_tbl := List.mem_of_getElem? (i := 685) (by decide +kernel)
set_option maxRecDepth 100000 in
theorem m_686 : Cond.instanceMethod yX8_drawMeeting ∈ lw_tbl := List.mem_of_getElem? (i := 686) (by decide +kernel)
set_option maxRecDepth 100000 in
theorem m_687 : Cond.selects RX8 yX8_drawMeeting yX8_drawMeeting ∈ lw_tbl := List.mem_of_getElem? (i := 687) (by decide +kernel)
set_option maxRecDepth 100000 in
theorem m_688 : Cond.code yX8_drawMeeting cX8_drawMeeting 2 none ∈ lw_tbl := List.mem_of_getElem? (i := 688) (by rfl)
set_option maxRecDepth 100000 in
theorem m_689 : Cond.methodLink RX8 128 yX8_draw ∈ lw_tbl := List.mem_of_getElem? (i := 689) (by decide +kernel)
set_option maxRecDepth 100000 in
theorem m_691 : Cond.instanceMethod yX8_draw ∈ lw_tbl := List.mem_of_getElem? (i := 691) (by decide +kernel)
set_option maxRecDepth 100000 in
theorem m_692 : Cond.code yX8_draw cX8_draw 1 (some FieldType.int) ∈ lw_tbl := List.mem_of_getElem? (i := 692) (by rfl)
set_option maxRecDepth 100000 in
theorem m_693 : Cond.constant RX8 132 1103515245 ∈ lw_tbl := List.mem_of_getElem? (i := 693) (by decide +kernel)
set_option maxRecDepth 100000 in
theorem m_694 : Cond.methodLink RL 88 yX9_year ∈ lw_tbl := List.mem_of_getElem? (i := 694) (by decide +kernel)
set_option maxRecDepth 100000 in
theorem m_695 : Cond.instanceMethod yX9_year ∈ lw_tbl := List.mem_of_getElem? (i := 695) (by decide +kernel)
set_option maxRecDepth 100000 in
theorem m_696 : Cond.selects RX9 yX9_year yX9_year ∈ lw_tbl := List.mem_of_getElem? (i := 696) (by decide +kernel)
set_option maxRecDepth 100000 in
theorem m_697 : Cond.code yX9_year cX9_year 3 (some FieldType.int) ∈ lw_tbl := List.mem_of_getElem? (i := 697) (by rfl)
set_option maxRecDepth 100000 in
theorem m_698 : Cond.methodLink RL 92 yX9_seed ∈ lw_tbl := List.mem_of_getElem? (i := 698) (by decide +kernel)
set_option maxRecDepth 100000 in
theorem m_699 : Cond.instanceMethod yX9_seed ∈ lw_tbl := List.mem_of_getElem? (i := 699) (by decide +kernel)
set_option maxRecDepth 100000 in
theorem m_700 : Cond.selects RX9 yX9_seed yX9_seed ∈ lw_tbl := List.mem_of_getElem? (i := 700) (by decide +kernel)
set_option maxRecDepth 100000 in
theorem m_701 : Cond.code yX9_seed cX9_seed 3 (some FieldType.int) ∈ lw_tbl := List.mem_of_getElem? (i := 701) (by rfl)
set_option maxRecDepth 100000 in
theorem m_702 : Cond.methodLink RL 96 yX9_then ∈ lw_tbl := List.mem_of_getElem? (i := 702) (by decide +kernel)
set_option maxRecDepth 100000 in
theorem m_703 : Cond.instanceMethod yX9_then ∈ lw_tbl := List.mem_of_getElem? (i := 703) (by decide +kernel)
set_option maxRecDepth 100000 in
theorem m_704 : Cond.selects RX9 yX9_then yX9_then ∈ lw_tbl := List.mem_of_getElem? (i := 704) (by decide +kernel)
set_option maxRecDepth 100000 in
theorem m_705 : Cond.code yX9_then cX9_then 3 (some FieldType.int) ∈ lw_tbl := List.mem_of_getElem? (i := 705) (by rfl)
set_option maxRecDepth 100000 in
theorem m_706 : Cond.methodLink RX9 213 yX0_copy ∈ lw_tbl := List.mem_of_getElem? (i := 706) (by decide +kernel)
set_option maxRecDepth 100000 in
theorem m_707 : Cond.instanceMethod yX0_copy ∈ lw_tbl := List.mem_of_getElem? (i := 707) (by decide +kernel)
set_option maxRecDepth 100000 in
theorem m_708 : Cond.selects RX0 yX0_copy yX0_copy ∈ lw_tbl := List.mem_of_getElem? (i := 708) (by decide +kernel)
set_option maxRecDepth 100000 in
theorem m_709 : Cond.code yX0_copy cX0_copy 2 none ∈ lw_tbl := List.mem_of_getElem? (i := 709) (by rfl)
set_option maxRecDepth 100000 in
theorem m_710 : Cond.methodLink RX0 35 arraycopyName ∈ lw_tbl := List.mem_of_getElem? (i := 710) (by decide +kernel)
set_option maxRecDepth 100000 in
theorem m_711 : Cond.methodLink RL 100 yX9_soonest ∈ lw_tbl := List.mem_of_getElem? (i := 711) (by decide +kernel)
set_option maxRecDepth 100000 in
theorem m_712 : Cond.instanceMethod yX9_soonest ∈ lw_tbl := List.mem_of_getElem? (i := 712) (by decide +kernel)
set_option maxRecDepth 100000 in
theorem m_713 : Cond.selects RX9 yX9_soonest yX9_soonest ∈ lw_tbl := List.mem_of_getElem? (i := 713) (by decide +kernel)
set_option maxRecDepth 100000 in
theorem m_714 : Cond.code yX9_soonest cX9_soonest 4 (some FieldType.int) ∈ lw_tbl := List.mem_of_getElem? (i := 714) (by rfl)
set_option maxRecDepth 100000 in
theorem m_715 : Cond.methodLink RX9 216 yX9_isIn ∈ lw_tbl := List.mem_of_getElem? (i := 715) (by decide +kernel)
set_option maxRecDepth 100000 in
theorem m_716 : Cond.static yX9_isIn ∈ lw_tbl := List.mem_of_getElem? (i := 716) (by decide +kernel)
set_option maxRecDepth 100000 in
theorem m_717 : Cond.code yX9_isIn cX9_isIn 2 (some FieldType.boolean) ∈ lw_tbl := List.mem_of_getElem? (i := 717) (by rfl)
set_option maxRecDepth 100000 in
theorem m_718 : Cond.methodLink RL 104 yX9_match ∈ lw_tbl := List.mem_of_getElem? (i := 718) (by decide +kernel)
set_option maxRecDepth 100000 in
theorem m_719 : Cond.instanceMethod yX9_match ∈ lw_tbl := List.mem_of_getElem? (i := 719) (by decide +kernel)
set_option maxRecDepth 100000 in
theorem m_720 : Cond.selects RX9 yX9_match yX9_match ∈ lw_tbl := List.mem_of_getElem? (i := 720) (by decide +kernel)
set_option maxRecDepth 100000 in
theorem m_721 : Cond.code yX9_match cX9_match 5 (some FieldType.int) ∈ lw_tbl := List.mem_of_getElem? (i := 721) (by rfl)
set_option maxRecDepth 100000 in
theorem m_722 : Cond.methodLink RX9 219 yX1_bestMatch ∈ lw_tbl := List.mem_of_getElem? (i := 722) (by decide +kernel)
set_option maxRecDepth 100000 in
theorem m_723 : Cond.instanceMethod yX1_bestMatch ∈ lw_tbl := List.mem_of_getElem? (i := 723) (by decide +kernel)
set_option maxRecDepth 100000 in
theorem m_724 : Cond.selects RX1 yX1_bestMatch yX1_bestMatch ∈ lw_tbl := List.mem_of_getElem? (i := 724) (by decide +kernel)
set_option maxRecDepth 100000 in
theorem m_725 : Cond.code yX1_bestMatch cX1_bestMatch 7 (some FieldType.int) ∈ lw_tbl := List.mem_of_getElem? (i := 725) (by rfl)
set_option maxRecDepth 100000 in
theorem m_726 : Cond.methodLink RX1 54 yX1_isFree ∈ lw_tbl := List.mem_of_getElem? (i := 726) (by decide +kernel)
set_option maxRecDepth 100000 in
theorem m_727 : Cond.methodLink RX1 57 yX1_byMarriage ∈ lw_tbl := List.mem_of_getElem? (i := 727) (by decide +kernel)
set_option maxRecDepth 100000 in
theorem m_729 : Cond.instanceMethod yX1_byMarriage ∈ lw_tbl := List.mem_of_getElem? (i := 729) (by decide +kernel)
set_option maxRecDepth 100000 in
theorem m_730 : Cond.code yX1_byMarriage cX1_byMarriage 7 (some FieldType.int) ∈ lw_tbl := List.mem_of_getElem? (i := 730) (by rfl)
set_option maxRecDepth 100000 in
theorem m_731 : Cond.methodLink RL 108 yX9_orderFor ∈ lw_tbl := List.mem_of_getElem? (i := 731) (by decide +kernel)
set_option maxRecDepth 100000 in
theorem m_732 : Cond.instanceMethod yX9_orderFor ∈ lw_tbl := List.mem_of_getElem? (i := 732) (by decide +kernel)
set_option maxRecDepth 100000 in
theorem m_733 : Cond.selects RX9 yX9_orderFor yX9_orderFor ∈ lw_tbl := List.mem_of_getElem? (i := 733) (by decide +kernel)
set_option maxRecDepth 100000 in
theorem m_734 : Cond.code yX9_orderFor cX9_orderFor 5 (some FieldType.int) ∈ lw_tbl := List.mem_of_getElem? (i := 734) (by rfl)
set_option maxRecDepth 100000 in
theorem m_735 : Cond.methodLink RX9 222 yX0_seersOf ∈ lw_tbl := List.mem_of_getElem? (i := 735) (by decide +kernel)
set_option maxRecDepth 100000 in
theorem m_736 : Cond.instanceMethod yX0_seersOf ∈ lw_tbl := List.mem_of_getElem? (i := 736) (by decide +kernel)
set_option maxRecDepth 100000 in
theorem m_737 : Cond.selects RX0 yX0_seersOf yX0_seersOf ∈ lw_tbl := List.mem_of_getElem? (i := 737) (by decide +kernel)
set_option maxRecDepth 100000 in
theorem m_738 : Cond.code yX0_seersOf cX0_seersOf 4 (some FieldType.int) ∈ lw_tbl := List.mem_of_getElem? (i := 738) (by rfl)
set_option maxRecDepth 100000 in
theorem m_739 : Cond.methodLinkNest RX0 31 yX9_isIn "VeilSteps" ∈ lw_tbl := List.mem_of_getElem? (i := 739) (by decide +kernel)
set_option maxRecDepth 100000 in
theorem m_740 : Cond.methodLink RL 112 yX9_seers ∈ lw_tbl := List.mem_of_getElem? (i := 740) (by decide +kernel)
set_option maxRecDepth 100000 in
theorem m_741 : Cond.instanceMethod yX9_seers ∈ lw_tbl := List.mem_of_getElem? (i := 741) (by decide +kernel)
set_option maxRecDepth 100000 in
theorem m_742 : Cond.selects RX9 yX9_seers yX9_seers ∈ lw_tbl := List.mem_of_getElem? (i := 742) (by decide +kernel)
set_option maxRecDepth 100000 in
theorem m_743 : Cond.code yX9_seers cX9_seers 2 (some FieldType.int) ∈ lw_tbl := List.mem_of_getElem? (i := 743) (by rfl)
set_option maxRecDepth 100000 in
theorem m_744 : Cond.methodLink RL 116 yX9_witnesses ∈ lw_tbl := List.mem_of_getElem? (i := 744) (by decide +kernel)
set_option maxRecDepth 100000 in
theorem m_745 : Cond.instanceMethod yX9_witnesses ∈ lw_tbl := List.mem_of_getElem? (i := 745) (by decide +kernel)
set_option maxRecDepth 100000 in
theorem m_746 : Cond.selects RX9 yX9_witnesses yX9_witnesses ∈ lw_tbl := List.mem_of_getElem? (i := 746) (by decide +kernel)
set_option maxRecDepth 100000 in
theorem m_747 : Cond.code yX9_witnesses cX9_witnesses 5 (some FieldType.int) ∈ lw_tbl := List.mem_of_getElem? (i := 747) (by rfl)
set_option maxRecDepth 100000 in
theorem m_748 : Cond.methodLink RX9 225 yX1_isSet ∈ lw_tbl := List.mem_of_getElem? (i := 748) (by decide +kernel)
set_option maxRecDepth 100000 in
theorem m_749 : Cond.instanceMethod yX1_isSet ∈ lw_tbl := List.mem_of_getElem? (i := 749) (by decide +kernel)
set_option maxRecDepth 100000 in
theorem m_750 : Cond.selects RX1 yX1_isSet yX1_isSet ∈ lw_tbl := List.mem_of_getElem? (i := 750) (by decide +kernel)
set_option maxRecDepth 100000 in
theorem m_751 : Cond.code yX1_isSet cX1_isSet 2 (some FieldType.boolean) ∈ lw_tbl := List.mem_of_getElem? (i := 751) (by rfl)
set_option maxRecDepth 100000 in
theorem m_752 : Cond.methodLink RX9 228 yJ6_bitCount_0f7a4 ∈ lw_tbl := List.mem_of_getElem? (i := 752) (by decide +kernel)
set_option maxRecDepth 100000 in
theorem m_753 : Cond.methodLink RX9 233 yX0_seenBy ∈ lw_tbl := List.mem_of_getElem? (i := 753) (by decide +kernel)
set_option maxRecDepth 100000 in
theorem m_754 : Cond.instanceMethod yX0_seenBy ∈ lw_tbl := List.mem_of_getElem? (i := 754) (by decide +kernel)
set_option maxRecDepth 100000 in
theorem m_755 : Cond.selects RX0 yX0_seenBy yX0_seenBy ∈ lw_tbl := List.mem_of_getElem? (i := 755) (by decide +kernel)
set_option maxRecDepth 100000 in
theorem m_756 : Cond.code yX0_seenBy cX0_seenBy 4 (some FieldType.int) ∈ lw_tbl := List.mem_of_getElem? (i := 756) (by rfl)
set_option maxRecDepth 100000 in
theorem m_757 : Cond.methodLink RL 120 yX9_odds ∈ lw_tbl := List.mem_of_getElem? (i := 757) (by decide +kernel)
set_option maxRecDepth 100000 in
theorem m_758 : Cond.instanceMethod yX9_odds ∈ lw_tbl := List.mem_of_getElem? (i := 758) (by decide +kernel)
set_option maxRecDepth 100000 in
theorem m_759 : Cond.selects RX9 yX9_odds yX9_odds ∈ lw_tbl := List.mem_of_getElem? (i := 759) (by decide +kernel)
set_option maxRecDepth 100000 in
theorem m_760 : Cond.code yX9_odds cX9_odds 6 (some FieldType.int) ∈ lw_tbl := List.mem_of_getElem? (i := 760) (by rfl)
set_option maxRecDepth 100000 in
theorem m_761 : Cond.methodLink RX9 236 yX8_throughTo ∈ lw_tbl := List.mem_of_getElem? (i := 761) (by decide +kernel)
set_option maxRecDepth 100000 in
theorem m_762 : Cond.instanceMethod yX8_throughTo ∈ lw_tbl := List.mem_of_getElem? (i := 762) (by decide +kernel)
set_option maxRecDepth 100000 in
theorem m_763 : Cond.selects RX8 yX8_throughTo yX8_throughTo ∈ lw_tbl := List.mem_of_getElem? (i := 763) (by decide +kernel)
set_option maxRecDepth 100000 in
theorem m_764 : Cond.code yX8_throughTo cX8_throughTo 5 (some FieldType.int) ∈ lw_tbl := List.mem_of_getElem? (i := 764) (by rfl)
set_option maxRecDepth 100000 in
theorem m_765 : Cond.methodLink RX9 239 yX9_greatestDivisor ∈ lw_tbl := List.mem_of_getElem? (i := 765) (by decide +kernel)
set_option maxRecDepth 100000 in
theorem m_766 : Cond.static yX9_greatestDivisor ∈ lw_tbl := List.mem_of_getElem? (i := 766) (by decide +kernel)
set_option maxRecDepth 100000 in
theorem m_767 : Cond.code yX9_greatestDivisor cX9_greatestDivisor 3 (some FieldType.int) ∈ lw_tbl := List.mem_of_getElem? (i := 767) (by rfl)
set_option maxRecDepth 100000 in
theorem m_768 : Cond.methodLink RX9 242 Lib.Math.max.name ∈ lw_tbl := List.mem_of_getElem? (i := 768) (by decide +kernel)
set_option maxRecDepth 100000 in
theorem m_769 : Cond.methodLink RL 124 yX9_fits ∈ lw_tbl := List.mem_of_getElem? (i := 769) (by decide +kernel)
set_option maxRecDepth 100000 in
theorem m_770 : Cond.instanceMethod yX9_fits ∈ lw_tbl := List.mem_of_getElem? (i := 770) (by decide +kernel)
set_option maxRecDepth 100000 in
theorem m_771 : Cond.selects RX9 yX9_fits yX9_fits ∈ lw_tbl := List.mem_of_getElem? (i := 771) (by decide +kernel)
set_option maxRecDepth 100000 in
theorem m_772 : Cond.code yX9_fits cX9_fits 5 (some FieldType.int) ∈ lw_tbl := List.mem_of_getElem? (i := 772) (by rfl)
set_option maxRecDepth 100000 in
theorem m_773 : Cond.methodLink RX9 247 yX9_isSheet ∈ lw_tbl := List.mem_of_getElem? (i := 773) (by decide +kernel)
set_option maxRecDepth 100000 in
theorem m_774 : Cond.static yX9_isSheet ∈ lw_tbl := List.mem_of_getElem? (i := 774) (by decide +kernel)
set_option maxRecDepth 100000 in
theorem m_775 : Cond.code yX9_isSheet cX9_isSheet 1 (some FieldType.boolean) ∈ lw_tbl := List.mem_of_getElem? (i := 775) (by rfl)
set_option maxRecDepth 100000 in
theorem m_776 : Cond.methodLink RX9 250 yX5_isMissing ∈ lw_tbl := List.mem_of_getElem? (i := 776) (by decide +kernel)
set_option maxRecDepth 100000 in
theorem m_777 : Cond.instanceMethod yX5_isMissing ∈ lw_tbl := List.mem_of_getElem? (i := 777) (by decide +kernel)
set_option maxRecDepth 100000 in
theorem m_778 : Cond.selects RX5 yX5_isMissing yX5_isMissing ∈ lw_tbl := List.mem_of_getElem? (i := 778) (by decide +kernel)
set_option maxRecDepth 100000 in
theorem m_779 : Cond.code yX5_isMissing cX5_isMissing 1 (some FieldType.boolean) ∈ lw_tbl := List.mem_of_getElem? (i := 779) (by rfl)
set_option maxRecDepth 100000 in
theorem m_780 : Cond.methodLink RX9 256 yX8_parentsFitting ∈ lw_tbl := List.mem_of_getElem? (i := 780) (by decide +kernel)
set_option maxRecDepth 100000 in
theorem m_781 : Cond.instanceMethod yX8_parentsFitting ∈ lw_tbl := List.mem_of_getElem? (i := 781) (by decide +kernel)
set_option maxRecDepth 100000 in
theorem m_782 : Cond.selects RX8 yX8_parentsFitting yX8_parentsFitting ∈ lw_tbl := List.mem_of_getElem? (i := 782) (by decide +kernel)
set_option maxRecDepth 100000 in
theorem m_783 : Cond.code yX8_parentsFitting cX8_parentsFitting 6 (some FieldType.int) ∈ lw_tbl := List.mem_of_getElem? (i := 783) (by rfl)
set_option maxRecDepth 100000 in
theorem m_784 : Cond.methodLink RX8 142 yX1_giveParent ∈ lw_tbl := List.mem_of_getElem? (i := 784) (by decide +kernel)
set_option maxRecDepth 100000 in
theorem m_785 : Cond.methodLink RX8 146 yX8_wouldLet ∈ lw_tbl := List.mem_of_getElem? (i := 785) (by decide +kernel)
set_option maxRecDepth 100000 in
theorem m_787 : Cond.instanceMethod yX8_wouldLet ∈ lw_tbl := List.mem_of_getElem? (i := 787) (by decide +kernel)
set_option maxRecDepth 100000 in
theorem m_788 : Cond.code yX8_wouldLet cX8_wouldLet 4 (some FieldType.boolean) ∈ lw_tbl := List.mem_of_getElem? (i := 788) (by rfl)
set_option maxRecDepth 100000 in
theorem m_789 : Cond.methodLink RX8 150 yX4_size ∈ lw_tbl := List.mem_of_getElem? (i := 789) (by decide +kernel)
set_option maxRecDepth 100000 in
theorem m_790 : Cond.methodLink RX8 153 yX4_at ∈ lw_tbl := List.mem_of_getElem? (i := 790) (by decide +kernel)
set_option maxRecDepth 100000 in
theorem m_791 : Cond.methodLink RL 128 yX9_voice ∈ lw_tbl := List.mem_of_getElem? (i := 791) (by decide +kernel)
set_option maxRecDepth 100000 in
theorem m_792 : Cond.instanceMethod yX9_voice ∈ lw_tbl := List.mem_of_getElem? (i := 792) (by decide +kernel)
set_option maxRecDepth 100000 in
theorem m_793 : Cond.selects RX9 yX9_voice yX9_voice ∈ lw_tbl := List.mem_of_getElem? (i := 793) (by decide +kernel)
set_option maxRecDepth 100000 in
theorem m_794 : Cond.code yX9_voice cX9_voice 5 (some FieldType.int) ∈ lw_tbl := List.mem_of_getElem? (i := 794) (by rfl)
set_option maxRecDepth 100000 in
theorem m_795 : Cond.methodLink RX9 260 yX7_isVoice ∈ lw_tbl := List.mem_of_getElem? (i := 795) (by decide +kernel)
set_option maxRecDepth 100000 in
theorem m_796 : Cond.static yX7_isVoice ∈ lw_tbl := List.mem_of_getElem? (i := 796) (by decide +kernel)
set_option maxRecDepth 100000 in
theorem m_797 : Cond.code yX7_isVoice cX7_isVoice 1 (some FieldType.boolean) ∈ lw_tbl := List.mem_of_getElem? (i := 797) (by rfl)
set_option maxRecDepth 100000 in
theorem m_798 : Cond.methodLink RX9 263 yX7_begin ∈ lw_tbl := List.mem_of_getElem? (i := 798) (by decide +kernel)
set_option maxRecDepth 100000 in
theorem m_799 : Cond.instanceMethod yX7_begin ∈ lw_tbl := List.mem_of_getElem? (i := 799) (by decide +kernel)
set_option maxRecDepth 100000 in
theorem m_800 : Cond.selects RX7 yX7_begin yX7_begin ∈ lw_tbl := List.mem_of_getElem? (i := 800) (by decide +kernel)
set_option maxRecDepth 100000 in
theorem m_801 : Cond.code yX7_begin cX7_begin 4 none ∈ lw_tbl := List.mem_of_getElem? (i := 801) (by rfl)
set_option maxRecDepth 100000 in
theorem m_802 : Cond.methodLink RX7 32 yX4_clear ∈ lw_tbl := List.mem_of_getElem? (i := 802) (by decide +kernel)
set_option maxRecDepth 100000 in
theorem m_803 : Cond.methodLink RX9 267 yX7_speak ∈ lw_tbl := List.mem_of_getElem? (i := 803) (by decide +kernel)
set_option maxRecDepth 100000 in
theorem m_804 : Cond.instanceMethod yX7_speak ∈ lw_tbl := List.mem_of_getElem? (i := 804) (by decide +kernel)
set_option maxRecDepth 100000 in
theorem m_805 : Cond.selects RX7 yX7_speak yX7_speak ∈ lw_tbl := List.mem_of_getElem? (i := 805) (by decide +kernel)
set_option maxRecDepth 100000 in
theorem m_806 : Cond.code yX7_speak cX7_speak 3 (some FieldType.int) ∈ lw_tbl := List.mem_of_getElem? (i := 806) (by rfl)
set_option maxRecDepth 100000 in
theorem m_807 : Cond.methodLink RX7 35 yX7_spoken ∈ lw_tbl := List.mem_of_getElem? (i := 807) (by decide +kernel)
set_option maxRecDepth 100000 in
theorem m_809 : Cond.instanceMethod yX7_spoken ∈ lw_tbl := List.mem_of_getElem? (i := 809) (by decide +kernel)
set_option maxRecDepth 100000 in
theorem m_810 : Cond.code yX7_spoken cX7_spoken 8 (some FieldType.int) ∈ lw_tbl := List.mem_of_getElem? (i := 810) (by rfl)
set_option maxRecDepth 100000 in
theorem m_811 : Cond.methodLink RX7 39 yX2_isKind ∈ lw_tbl := List.mem_of_getElem? (i := 811) (by decide +kernel)
set_option maxRecDepth 100000 in
theorem m_812 : Cond.fieldLink RX7 45 "VeilSteps$Voices" "BODIES" "[I" ∈ lw_tbl := List.mem_of_getElem? (i := 812) (by decide +kernel)
set_option maxRecDepth 100000 in
theorem m_813 : Cond.laysStatic "VeilSteps$Voices" "BODIES" "[I" ∈ lw_tbl := List.mem_of_getElem? (i := 813) (by decide +kernel)
set_option maxRecDepth 100000 in
theorem m_814 : Cond.methodLink RX7 49 yX4_add ∈ lw_tbl := List.mem_of_getElem? (i := 814) (by decide +kernel)
set_option maxRecDepth 100000 in
theorem m_815 : Cond.methodLink RX7 52 yX7_worked ∈ lw_tbl := List.mem_of_getElem? (i := 815) (by decide +kernel)
set_option maxRecDepth 100000 in
theorem m_817 : Cond.instanceMethod yX7_worked ∈ lw_tbl := List.mem_of_getElem? (i := 817) (by decide +kernel)
set_option maxRecDepth 100000 in
theorem m_818 : Cond.code yX7_worked cX7_worked 6 (some FieldType.int) ∈ lw_tbl := List.mem_of_getElem? (i := 818) (by rfl)
set_option maxRecDepth 100000 in
theorem m_819 : Cond.methodLink RX7 55 yX2_above ∈ lw_tbl := List.mem_of_getElem? (i := 819) (by decide +kernel)
set_option maxRecDepth 100000 in
theorem m_820 : Cond.methodLink RX7 59 yX7_own ∈ lw_tbl := List.mem_of_getElem? (i := 820) (by decide +kernel)
set_option maxRecDepth 100000 in
theorem m_822 : Cond.instanceMethod yX7_own ∈ lw_tbl := List.mem_of_getElem? (i := 822) (by decide +kernel)
set_option maxRecDepth 100000 in
theorem m_823 : Cond.code yX7_own cX7_own 4 (some FieldType.int) ∈ lw_tbl := List.mem_of_getElem? (i := 823) (by rfl)
set_option maxRecDepth 100000 in
theorem m_824 : Cond.methodLink RX7 63 yX7_partsBy ∈ lw_tbl := List.mem_of_getElem? (i := 824) (by decide +kernel)
set_option maxRecDepth 100000 in
theorem m_826 : Cond.instanceMethod yX7_partsBy ∈ lw_tbl := List.mem_of_getElem? (i := 826) (by decide +kernel)
set_option maxRecDepth 100000 in
theorem m_827 : Cond.code yX7_partsBy cX7_partsBy 3 (some FieldType.int) ∈ lw_tbl := List.mem_of_getElem? (i := 827) (by rfl)
set_option maxRecDepth 100000 in
theorem m_828 : Cond.methodLink RX7 67 yX7_heiressParts ∈ lw_tbl := List.mem_of_getElem? (i := 828) (by decide +kernel)
set_option maxRecDepth 100000 in
theorem m_830 : Cond.instanceMethod yX7_heiressParts ∈ lw_tbl := List.mem_of_getElem? (i := 830) (by decide +kernel)
set_option maxRecDepth 100000 in
theorem m_831 : Cond.code yX7_heiressParts cX7_heiressParts 5 (some FieldType.int) ∈ lw_tbl := List.mem_of_getElem? (i := 831) (by rfl)
set_option maxRecDepth 100000 in
theorem m_832 : Cond.methodLink RL 132 yX9_body ∈ lw_tbl := List.mem_of_getElem? (i := 832) (by decide +kernel)
set_option maxRecDepth 100000 in
theorem m_833 : Cond.instanceMethod yX9_body ∈ lw_tbl := List.mem_of_getElem? (i := 833) (by decide +kernel)
set_option maxRecDepth 100000 in
theorem m_834 : Cond.selects RX9 yX9_body yX9_body ∈ lw_tbl := List.mem_of_getElem? (i := 834) (by decide +kernel)
set_option maxRecDepth 100000 in
theorem m_835 : Cond.code yX9_body cX9_body 2 (some FieldType.int) ∈ lw_tbl := List.mem_of_getElem? (i := 835) (by rfl)
set_option maxRecDepth 100000 in
theorem m_836 : Cond.methodLink RX9 277 yX4_stands ∈ lw_tbl := List.mem_of_getElem? (i := 836) (by decide +kernel)
set_option maxRecDepth 100000 in
theorem m_837 : Cond.instanceMethod yX4_stands ∈ lw_tbl := List.mem_of_getElem? (i := 837) (by decide +kernel)
set_option maxRecDepth 100000 in
theorem m_838 : Cond.selects RX4 yX4_stands yX4_stands ∈ lw_tbl := List.mem_of_getElem? (i := 838) (by decide +kernel)
set_option maxRecDepth 100000 in
theorem m_839 : Cond.code yX4_stands cX4_stands 2 (some FieldType.boolean) ∈ lw_tbl := List.mem_of_getElem? (i := 839) (by rfl)
set_option maxRecDepth 100000 in
theorem m_840 : Cond.methodLink RX9 280 yX4_at ∈ lw_tbl := List.mem_of_getElem? (i := 840) (by decide +kernel)
set_option maxRecDepth 100000 in
theorem m_841 : Cond.methodLink RL 136 yX9_sheet ∈ lw_tbl := List.mem_of_getElem? (i := 841) (by decide +kernel)
set_option maxRecDepth 100000 in
theorem m_842 : Cond.instanceMethod yX9_sheet ∈ lw_tbl := List.mem_of_getElem? (i := 842) (by decide +kernel)
set_option maxRecDepth 100000 in
theorem m_843 : Cond.selects RX9 yX9_sheet yX9_sheet ∈ lw_tbl := List.mem_of_getElem? (i := 843) (by decide +kernel)
set_option maxRecDepth 100000 in
theorem m_844 : Cond.code yX9_sheet cX9_sheet 4 (some FieldType.int) ∈ lw_tbl := List.mem_of_getElem? (i := 844) (by rfl)
set_option maxRecDepth 100000 in
theorem m_845 : Cond.methodLink RX9 283 yX5_areBits ∈ lw_tbl := List.mem_of_getElem? (i := 845) (by decide +kernel)
set_option maxRecDepth 100000 in
theorem m_846 : Cond.static yX5_areBits ∈ lw_tbl := List.mem_of_getElem? (i := 846) (by decide +kernel)
set_option maxRecDepth 100000 in
theorem m_847 : Cond.code yX5_areBits cX5_areBits 1 (some FieldType.boolean) ∈ lw_tbl := List.mem_of_getElem? (i := 847) (by rfl)
set_option maxRecDepth 100000 in
theorem m_848 : Cond.methodLink RX9 286 yX5_makeNew ∈ lw_tbl := List.mem_of_getElem? (i := 848) (by decide +kernel)
set_option maxRecDepth 100000 in
theorem m_849 : Cond.instanceMethod yX5_makeNew ∈ lw_tbl := List.mem_of_getElem? (i := 849) (by decide +kernel)
set_option maxRecDepth 100000 in
theorem m_850 : Cond.selects RX5 yX5_makeNew yX5_makeNew ∈ lw_tbl := List.mem_of_getElem? (i := 850) (by decide +kernel)
set_option maxRecDepth 100000 in
theorem m_851 : Cond.code yX5_makeNew cX5_makeNew 4 none ∈ lw_tbl := List.mem_of_getElem? (i := 851) (by rfl)
set_option maxRecDepth 100000 in
theorem m_852 : Cond.methodLink RX5 24 yX4_clear ∈ lw_tbl := List.mem_of_getElem? (i := 852) (by decide +kernel)
set_option maxRecDepth 100000 in
theorem m_853 : Cond.methodLink RX5 27 yX4_add ∈ lw_tbl := List.mem_of_getElem? (i := 853) (by decide +kernel)
set_option maxRecDepth 100000 in
theorem m_854 : Cond.methodLink RL 140 yX9_put ∈ lw_tbl := List.mem_of_getElem? (i := 854) (by decide +kernel)
set_option maxRecDepth 100000 in
theorem m_855 : Cond.instanceMethod yX9_put ∈ lw_tbl := List.mem_of_getElem? (i := 855) (by decide +kernel)
set_option maxRecDepth 100000 in
theorem m_856 : Cond.selects RX9 yX9_put yX9_put ∈ lw_tbl := List.mem_of_getElem? (i := 856) (by decide +kernel)
set_option maxRecDepth 100000 in
theorem m_857 : Cond.code yX9_put cX9_put 4 (some FieldType.int) ∈ lw_tbl := List.mem_of_getElem? (i := 857) (by rfl)
set_option maxRecDepth 100000 in
theorem m_858 : Cond.methodLink RX9 289 yX5_write ∈ lw_tbl := List.mem_of_getElem? (i := 858) (by decide +kernel)
set_option maxRecDepth 100000 in
theorem m_859 : Cond.instanceMethod yX5_write ∈ lw_tbl := List.mem_of_getElem? (i := 859) (by decide +kernel)
set_option maxRecDepth 100000 in
theorem m_860 : Cond.selects RX5 yX5_write yX5_write ∈ lw_tbl := List.mem_of_getElem? (i := 860) (by decide +kernel)
set_option maxRecDepth 100000 in
theorem m_861 : Cond.code yX5_write cX5_write 3 none ∈ lw_tbl := List.mem_of_getElem? (i := 861) (by rfl)
set_option maxRecDepth 100000 in
theorem m_862 : Cond.methodLink RX5 30 yX4_write ∈ lw_tbl := List.mem_of_getElem? (i := 862) (by decide +kernel)
set_option maxRecDepth 100000 in
theorem m_863 : Cond.instanceMethod yX4_write ∈ lw_tbl := List.mem_of_getElem? (i := 863) (by decide +kernel)
set_option maxRecDepth 100000 in
theorem m_864 : Cond.selects RX4 yX4_write yX4_write ∈ lw_tbl := List.mem_of_getElem? (i := 864) (by decide +kernel)
set_option maxRecDepth 100000 in
theorem m_865 : Cond.code yX4_write cX4_write 3 none ∈ lw_tbl := List.mem_of_getElem? (i := 865) (by rfl)
set_option maxRecDepth 100000 in
theorem m_866 : Cond.methodLink RX4 23 yX4_stands ∈ lw_tbl := List.mem_of_getElem? (i := 866) (by decide +kernel)
set_option maxRecDepth 100000 in
theorem m_867 : Cond.methodLink RL 144 yX9_move ∈ lw_tbl := List.mem_of_getElem? (i := 867) (by decide +kernel)
set_option maxRecDepth 100000 in
theorem m_868 : Cond.instanceMethod yX9_move ∈ lw_tbl := List.mem_of_getElem? (i := 868) (by decide +kernel)
set_option maxRecDepth 100000 in
theorem m_869 : Cond.selects RX9 yX9_move yX9_move ∈ lw_tbl := List.mem_of_getElem? (i := 869) (by decide +kernel)
set_option maxRecDepth 100000 in
theorem m_870 : Cond.code yX9_move cX9_move 6 (some FieldType.int) ∈ lw_tbl := List.mem_of_getElem? (i := 870) (by rfl)
set_option maxRecDepth 100000 in
theorem m_871 : Cond.methodLink RX9 295 yX4_stand ∈ lw_tbl := List.mem_of_getElem? (i := 871) (by decide +kernel)
set_option maxRecDepth 100000 in
theorem m_872 : Cond.instanceMethod yX4_stand ∈ lw_tbl := List.mem_of_getElem? (i := 872) (by decide +kernel)
set_option maxRecDepth 100000 in
theorem m_873 : Cond.selects RX4 yX4_stand yX4_stand ∈ lw_tbl := List.mem_of_getElem? (i := 873) (by decide +kernel)
set_option maxRecDepth 100000 in
theorem m_874 : Cond.code yX4_stand cX4_stand 3 (some FieldType.boolean) ∈ lw_tbl := List.mem_of_getElem? (i := 874) (by rfl)
set_option maxRecDepth 100000 in
theorem m_875 : Cond.methodLink RX9 298 yX4_take ∈ lw_tbl := List.mem_of_getElem? (i := 875) (by decide +kernel)
set_option maxRecDepth 100000 in
theorem m_876 : Cond.instanceMethod yX4_take ∈ lw_tbl := List.mem_of_getElem? (i := 876) (by decide +kernel)
set_option maxRecDepth 100000 in
theorem m_877 : Cond.selects RX4 yX4_take yX4_take ∈ lw_tbl := List.mem_of_getElem? (i := 877) (by decide +kernel)
set_option maxRecDepth 100000 in
theorem m_878 : Cond.code yX4_take cX4_take 5 none ∈ lw_tbl := List.mem_of_getElem? (i := 878) (by rfl)
set_option maxRecDepth 100000 in
theorem m_879 : Cond.methodLink RX4 36 yX4_stand ∈ lw_tbl := List.mem_of_getElem? (i := 879) (by decide +kernel)
set_option maxRecDepth 100000 in
theorem m_880 : Cond.methodLink RL 149 yX9_seenAll ∈ lw_tbl := List.mem_of_getElem? (i := 880) (by decide +kernel)
set_option maxRecDepth 100000 in
theorem m_881 : Cond.instanceMethod yX9_seenAll ∈ lw_tbl := List.mem_of_getElem? (i := 881) (by decide +kernel)
set_option maxRecDepth 100000 in
theorem m_882 : Cond.selects RX9 yX9_seenAll yX9_seenAll ∈ lw_tbl := List.mem_of_getElem? (i := 882) (by decide +kernel)
set_option maxRecDepth 100000 in
theorem m_883 : Cond.code yX9_seenAll cX9_seenAll 4 (some FieldType.int) ∈ lw_tbl := List.mem_of_getElem? (i := 883) (by rfl)
set_option maxRecDepth 100000 in
theorem m_884 : Cond.methodLink RL 153 yX9_judge ∈ lw_tbl := List.mem_of_getElem? (i := 884) (by decide +kernel)
set_option maxRecDepth 100000 in
theorem m_885 : Cond.instanceMethod yX9_judge ∈ lw_tbl := List.mem_of_getElem? (i := 885) (by decide +kernel)
set_option maxRecDepth 100000 in
theorem m_886 : Cond.selects RX9 yX9_judge yX9_judge ∈ lw_tbl := List.mem_of_getElem? (i := 886) (by decide +kernel)
set_option maxRecDepth 100000 in
theorem m_887 : Cond.code yX9_judge cX9_judge 4 (some FieldType.int) ∈ lw_tbl := List.mem_of_getElem? (i := 887) (by rfl)
set_option maxRecDepth 100000 in
theorem m_888 : Cond.methodLink RL 157 yX9_image ∈ lw_tbl := List.mem_of_getElem? (i := 888) (by decide +kernel)
set_option maxRecDepth 100000 in
theorem m_889 : Cond.instanceMethod yX9_image ∈ lw_tbl := List.mem_of_getElem? (i := 889) (by decide +kernel)
set_option maxRecDepth 100000 in
theorem m_890 : Cond.selects RX9 yX9_image yX9_image ∈ lw_tbl := List.mem_of_getElem? (i := 890) (by decide +kernel)
set_option maxRecDepth 100000 in
theorem m_891 : Cond.code yX9_image cX9_image 1 (some FieldType.int) ∈ lw_tbl := List.mem_of_getElem? (i := 891) (by rfl)
set_option maxRecDepth 100000 in
theorem m_892 : Cond.methodLink RX9 302 yX8_copy ∈ lw_tbl := List.mem_of_getElem? (i := 892) (by decide +kernel)
set_option maxRecDepth 100000 in
theorem m_893 : Cond.instanceMethod yX8_copy ∈ lw_tbl := List.mem_of_getElem? (i := 893) (by decide +kernel)
set_option maxRecDepth 100000 in
theorem m_894 : Cond.selects RX8 yX8_copy yX8_copy ∈ lw_tbl := List.mem_of_getElem? (i := 894) (by decide +kernel)
set_option maxRecDepth 100000 in
theorem m_895 : Cond.code yX8_copy cX8_copy 3 none ∈ lw_tbl := List.mem_of_getElem? (i := 895) (by rfl)
set_option maxRecDepth 100000 in
theorem m_896 : Cond.methodLink RX8 156 yX1_copy ∈ lw_tbl := List.mem_of_getElem? (i := 896) (by decide +kernel)
set_option maxRecDepth 100000 in
theorem m_897 : Cond.instanceMethod yX1_copy ∈ lw_tbl := List.mem_of_getElem? (i := 897) (by decide +kernel)
set_option maxRecDepth 100000 in
theorem m_898 : Cond.selects RX1 yX1_copy yX1_copy ∈ lw_tbl := List.mem_of_getElem? (i := 898) (by decide +kernel)
set_option maxRecDepth 100000 in
theorem m_899 : Cond.code yX1_copy cX1_copy 2 none ∈ lw_tbl := List.mem_of_getElem? (i := 899) (by rfl)
set_option maxRecDepth 100000 in
theorem m_900 : Cond.methodLink RX1 61 arraycopyName ∈ lw_tbl := List.mem_of_getElem? (i := 900) (by decide +kernel)
set_option maxRecDepth 100000 in
theorem m_901 : Cond.methodLink RX8 160 yX0_copy ∈ lw_tbl := List.mem_of_getElem? (i := 901) (by decide +kernel)
set_option maxRecDepth 100000 in
theorem m_902 : Cond.methodLink RX8 163 arraycopyName ∈ lw_tbl := List.mem_of_getElem? (i := 902) (by decide +kernel)
set_option maxRecDepth 100000 in
theorem m_903 : Cond.methodLink RX8 172 yX4_copy ∈ lw_tbl := List.mem_of_getElem? (i := 903) (by decide +kernel)
set_option maxRecDepth 100000 in
theorem m_904 : Cond.methodLink RL 162 yX9_restore ∈ lw_tbl := List.mem_of_getElem? (i := 904) (by decide +kernel)
set_option maxRecDepth 100000 in
theorem m_905 : Cond.instanceMethod yX9_restore ∈ lw_tbl := List.mem_of_getElem? (i := 905) (by decide +kernel)
set_option maxRecDepth 100000 in
theorem m_906 : Cond.selects RX9 yX9_restore yX9_restore ∈ lw_tbl := List.mem_of_getElem? (i := 906) (by decide +kernel)
set_option maxRecDepth 100000 in
theorem m_907 : Cond.code yX9_restore cX9_restore 1 (some FieldType.int) ∈ lw_tbl := List.mem_of_getElem? (i := 907) (by rfl)
set_option maxRecDepth 100000 in
theorem m_908 : Cond.methodLink RL 166 yX9_tell ∈ lw_tbl := List.mem_of_getElem? (i := 908) (by decide +kernel)
set_option maxRecDepth 100000 in
theorem m_909 : Cond.instanceMethod yX9_tell ∈ lw_tbl := List.mem_of_getElem? (i := 909) (by decide +kernel)
set_option maxRecDepth 100000 in
theorem m_910 : Cond.selects RX9 yX9_tell yX9_tell ∈ lw_tbl := List.mem_of_getElem? (i := 910) (by decide +kernel)
set_option maxRecDepth 100000 in
theorem m_911 : Cond.code yX9_tell cX9_tell 2 (some FieldType.int) ∈ lw_tbl := List.mem_of_getElem? (i := 911) (by rfl)
set_option maxRecDepth 100000 in
theorem m_912 : Cond.methodLink RL 170 yX9_check ∈ lw_tbl := List.mem_of_getElem? (i := 912) (by decide +kernel)
set_option maxRecDepth 100000 in
theorem m_913 : Cond.instanceMethod yX9_check ∈ lw_tbl := List.mem_of_getElem? (i := 913) (by decide +kernel)
set_option maxRecDepth 100000 in
theorem m_914 : Cond.selects RX9 yX9_check yX9_check ∈ lw_tbl := List.mem_of_getElem? (i := 914) (by decide +kernel)
set_option maxRecDepth 100000 in
theorem m_915 : Cond.code yX9_check cX9_check 3 (some FieldType.int) ∈ lw_tbl := List.mem_of_getElem? (i := 915) (by rfl)
set_option maxRecDepth 100000 in
theorem m_916 : Cond.methodLink RL 174 yX9_count ∈ lw_tbl := List.mem_of_getElem? (i := 916) (by decide +kernel)
set_option maxRecDepth 100000 in
theorem m_917 : Cond.instanceMethod yX9_count ∈ lw_tbl := List.mem_of_getElem? (i := 917) (by decide +kernel)
set_option maxRecDepth 100000 in
theorem m_918 : Cond.selects RX9 yX9_count yX9_count ∈ lw_tbl := List.mem_of_getElem? (i := 918) (by decide +kernel)
set_option maxRecDepth 100000 in
theorem m_919 : Cond.code yX9_count cX9_count 2 (some FieldType.int) ∈ lw_tbl := List.mem_of_getElem? (i := 919) (by rfl)
set_option maxRecDepth 100000 in
theorem m_920 : Cond.methodLink RL 178 yX9_told ∈ lw_tbl := List.mem_of_getElem? (i := 920) (by decide +kernel)
set_option maxRecDepth 100000 in
theorem m_921 : Cond.instanceMethod yX9_told ∈ lw_tbl := List.mem_of_getElem? (i := 921) (by decide +kernel)
set_option maxRecDepth 100000 in
theorem m_922 : Cond.selects RX9 yX9_told yX9_told ∈ lw_tbl := List.mem_of_getElem? (i := 922) (by decide +kernel)
set_option maxRecDepth 100000 in
theorem m_923 : Cond.code yX9_told cX9_told 2 (some FieldType.int) ∈ lw_tbl := List.mem_of_getElem? (i := 923) (by rfl)
set_option maxRecDepth 100000 in
theorem m_924 : Cond.classLink RL 10 "VeilStepsModel" ∈ lw_tbl := List.mem_of_getElem? (i := 924) (by decide +kernel)
set_option maxRecDepth 100000 in
theorem m_925 : Cond.instantiable RX10 20 ∈ lw_tbl := List.mem_of_getElem? (i := 925) (by decide +kernel)
set_option maxRecDepth 100000 in
theorem m_926 : Cond.methodLink RL 12 yX10_init ∈ lw_tbl := List.mem_of_getElem? (i := 926) (by decide +kernel)
set_option maxRecDepth 100000 in
theorem m_927 : Cond.instanceMethod yX10_init ∈ lw_tbl := List.mem_of_getElem? (i := 927) (by decide +kernel)
set_option maxRecDepth 100000 in
theorem m_928 : Cond.code yX10_init cX10_init 2 none ∈ lw_tbl := List.mem_of_getElem? (i := 928) (by rfl)
set_option maxRecDepth 100000 in
theorem m_929 : Cond.methodLink RX10 3 objectInit ∈ lw_tbl := List.mem_of_getElem? (i := 929) (by decide +kernel)
set_option maxRecDepth 100000 in
theorem m_930 : Cond.fieldLink RX10 9 "VeilStepsModel" "row" "[I" ∈ lw_tbl := List.mem_of_getElem? (i := 930) (by decide +kernel)
set_option maxRecDepth 100000 in
theorem m_931 : Cond.fieldLink RX10 13 "VeilStepsModel" "kept" "[I" ∈ lw_tbl := List.mem_of_getElem? (i := 931) (by decide +kernel)
set_option maxRecDepth 100000 in
theorem m_932 : Cond.fieldLink RX10 16 "VeilStepsModel" "before" "[I" ∈ lw_tbl := List.mem_of_getElem? (i := 932) (by decide +kernel)
set_option maxRecDepth 100000 in
theorem m_933 : Cond.fieldLink RX10 266 "VeilStepsModel" "images" "I" ∈ lw_tbl := List.mem_of_getElem? (i := 933) (by decide +kernel)
set_option maxRecDepth 100000 in
theorem m_934 : Cond.fieldLink RX10 19 "VeilStepsModel" "errors" "[I" ∈ lw_tbl := List.mem_of_getElem? (i := 934) (by decide +kernel)
set_option maxRecDepth 100000 in
theorem m_935 : Cond.fieldLink RX10 22 "VeilStepsModel" "bitsOf" "[I" ∈ lw_tbl := List.mem_of_getElem? (i := 935) (by decide +kernel)
set_option maxRecDepth 100000 in
theorem m_936 : Cond.fieldLink RX10 25 "VeilStepsModel" "sizeOf" "[I" ∈ lw_tbl := List.mem_of_getElem? (i := 936) (by decide +kernel)
set_option maxRecDepth 100000 in
theorem m_937 : Cond.fieldLink RX10 28 "VeilStepsModel" "cells" "[I" ∈ lw_tbl := List.mem_of_getElem? (i := 937) (by decide +kernel)
set_option maxRecDepth 100000 in
theorem m_938 : Cond.fieldLink RX10 31 "VeilStepsModel" "act" "[I" ∈ lw_tbl := List.mem_of_getElem? (i := 938) (by decide +kernel)
set_option maxRecDepth 100000 in
theorem m_939 : Cond.fieldLink RX10 34 "VeilStepsModel" "with" "[I" ∈ lw_tbl := List.mem_of_getElem? (i := 939) (by decide +kernel)
set_option maxRecDepth 100000 in
theorem m_940 : Cond.fieldLink RX10 37 "VeilStepsModel" "facts" "[I" ∈ lw_tbl := List.mem_of_getElem? (i := 940) (by decide +kernel)
set_option maxRecDepth 100000 in
theorem m_941 : Cond.fieldLink RX10 40 "VeilStepsModel" "pile" "[I" ∈ lw_tbl := List.mem_of_getElem? (i := 941) (by decide +kernel)
set_option maxRecDepth 100000 in
theorem m_942 : Cond.fieldLink RX10 124 "VeilStepsModel" "laid" "I" ∈ lw_tbl := List.mem_of_getElem? (i := 942) (by decide +kernel)
set_option maxRecDepth 100000 in
theorem m_943 : Cond.fieldLink RX10 120 "VeilStepsModel" "here" "I" ∈ lw_tbl := List.mem_of_getElem? (i := 943) (by decide +kernel)
set_option maxRecDepth 100000 in
theorem m_944 : Cond.fieldLink RX10 141 "VeilStepsModel" "opened" "I" ∈ lw_tbl := List.mem_of_getElem? (i := 944) (by decide +kernel)
set_option maxRecDepth 100000 in
theorem m_945 : Cond.fieldLink RX10 134 "VeilStepsModel" "bad" "Z" ∈ lw_tbl := List.mem_of_getElem? (i := 945) (by decide +kernel)
set_option maxRecDepth 100000 in
theorem m_946 : Cond.fieldLink RX10 127 "VeilStepsModel" "using" "I" ∈ lw_tbl := List.mem_of_getElem? (i := 946) (by decide +kernel)
set_option maxRecDepth 100000 in
theorem m_947 : Cond.fieldLink RX10 43 "VeilStepsModel" "trace" "[I" ∈ lw_tbl := List.mem_of_getElem? (i := 947) (by decide +kernel)
set_option maxRecDepth 100000 in
theorem m_948 : Cond.fieldLink RX10 219 "VeilStepsModel" "traced" "I" ∈ lw_tbl := List.mem_of_getElem? (i := 948) (by decide +kernel)
set_option maxRecDepth 100000 in
theorem m_949 : Cond.fieldLink RX10 246 "VeilStepsModel" "isParted" "Z" ∈ lw_tbl := List.mem_of_getElem? (i := 949) (by decide +kernel)
set_option maxRecDepth 100000 in
theorem m_950 : Cond.laysFinal RX10 "VeilStepsModel" "row" "[I" ∈ lw_tbl := List.mem_of_getElem? (i := 950) (by decide +kernel)
set_option maxRecDepth 100000 in
theorem m_952 : Cond.laysFinal RX10 "VeilStepsModel" "kept" "[I" ∈ lw_tbl := List.mem_of_getElem? (i := 952) (by decide +kernel)
set_option maxRecDepth 100000 in
theorem m_954 : Cond.laysFinal RX10 "VeilStepsModel" "before" "[I" ∈ lw_tbl := List.mem_of_getElem? (i := 954) (by decide +kernel)
set_option maxRecDepth 100000 in
theorem m_956 : Cond.lays RX10 "VeilStepsModel" "images" "I" ∈ lw_tbl := List.mem_of_getElem? (i := 956) (by decide +kernel)
set_option maxRecDepth 100000 in
theorem m_958 : Cond.laysFinal RX10 "VeilStepsModel" "errors" "[I" ∈ lw_tbl := List.mem_of_getElem? (i := 958) (by decide +kernel)
set_option maxRecDepth 100000 in
theorem m_960 : Cond.laysFinal RX10 "VeilStepsModel" "bitsOf" "[I" ∈ lw_tbl := List.mem_of_getElem? (i := 960) (by decide +kernel)
set_option maxRecDepth 100000 in
theorem m_962 : Cond.laysFinal RX10 "VeilStepsModel" "sizeOf" "[I" ∈ lw_tbl := List.mem_of_getElem? (i := 962) (by decide +kernel)
set_option maxRecDepth 100000 in
theorem m_964 : Cond.laysFinal RX10 "VeilStepsModel" "cells" "[I" ∈ lw_tbl := List.mem_of_getElem? (i := 964) (by decide +kernel)
set_option maxRecDepth 100000 in
theorem m_966 : Cond.laysFinal RX10 "VeilStepsModel" "act" "[I" ∈ lw_tbl := List.mem_of_getElem? (i := 966) (by decide +kernel)
set_option maxRecDepth 100000 in
theorem m_968 : Cond.laysFinal RX10 "VeilStepsModel" "with" "[I" ∈ lw_tbl := List.mem_of_getElem? (i := 968) (by decide +kernel)
set_option maxRecDepth 100000 in
theorem m_970 : Cond.laysFinal RX10 "VeilStepsModel" "facts" "[I" ∈ lw_tbl := List.mem_of_getElem? (i := 970) (by decide +kernel)
set_option maxRecDepth 100000 in
theorem m_972 : Cond.laysFinal RX10 "VeilStepsModel" "pile" "[I" ∈ lw_tbl := List.mem_of_getElem? (i := 972) (by decide +kernel)
set_option maxRecDepth 100000 in
theorem m_974 : Cond.lays RX10 "VeilStepsModel" "laid" "I" ∈ lw_tbl := List.mem_of_getElem? (i := 974) (by decide +kernel)
set_option maxRecDepth 100000 in
theorem m_976 : Cond.lays RX10 "VeilStepsModel" "here" "I" ∈ lw_tbl := List.mem_of_getElem? (i := 976) (by decide +kernel)
set_option maxRecDepth 100000 in
theorem m_978 : Cond.lays RX10 "VeilStepsModel" "opened" "I" ∈ lw_tbl := List.mem_of_getElem? (i := 978) (by decide +kernel)
set_option maxRecDepth 100000 in
theorem m_980 : Cond.lays RX10 "VeilStepsModel" "bad" "Z" ∈ lw_tbl := List.mem_of_getElem? (i := 980) (by decide +kernel)
set_option maxRecDepth 100000 in
theorem m_982 : Cond.lays RX10 "VeilStepsModel" "using" "I" ∈ lw_tbl := List.mem_of_getElem? (i := 982) (by decide +kernel)
set_option maxRecDepth 100000 in
theorem m_984 : Cond.laysFinal RX10 "VeilStepsModel" "trace" "[I" ∈ lw_tbl := List.mem_of_getElem? (i := 984) (by decide +kernel)
set_option maxRecDepth 100000 in
theorem m_986 : Cond.lays RX10 "VeilStepsModel" "traced" "I" ∈ lw_tbl := List.mem_of_getElem? (i := 986) (by decide +kernel)
set_option maxRecDepth 100000 in
theorem m_988 : Cond.lays RX10 "VeilStepsModel" "isParted" "Z" ∈ lw_tbl := List.mem_of_getElem? (i := 988) (by decide +kernel)
set_option maxRecDepth 100000 in
theorem m_991 : Cond.methodLink RL 17 yX10_person ∈ lw_tbl := List.mem_of_getElem? (i := 991) (by decide +kernel)
set_option maxRecDepth 100000 in
theorem m_992 : Cond.instanceMethod yX10_person ∈ lw_tbl := List.mem_of_getElem? (i := 992) (by decide +kernel)
set_option maxRecDepth 100000 in
theorem m_993 : Cond.selects RX10 yX10_person yX10_person ∈ lw_tbl := List.mem_of_getElem? (i := 993) (by decide +kernel)
set_option maxRecDepth 100000 in
theorem m_994 : Cond.code yX10_person cX10_person 4 (some FieldType.int) ∈ lw_tbl := List.mem_of_getElem? (i := 994) (by rfl)
set_option maxRecDepth 100000 in
theorem m_995 : Cond.methodLink RX10 86 yX10_isKm ∈ lw_tbl := List.mem_of_getElem? (i := 995) (by decide +kernel)
set_option maxRecDepth 100000 in
theorem m_996 : Cond.static yX10_isKm ∈ lw_tbl := List.mem_of_getElem? (i := 996) (by decide +kernel)
set_option maxRecDepth 100000 in
theorem m_997 : Cond.code yX10_isKm cX10_isKm 1 (some FieldType.boolean) ∈ lw_tbl := List.mem_of_getElem? (i := 997) (by rfl)
set_option maxRecDepth 100000 in
theorem m_998 : Cond.methodLink RX10 51 yX10_in ∈ lw_tbl := List.mem_of_getElem? (i := 998) (by decide +kernel)
set_option maxRecDepth 100000 in
theorem m_999 : Cond.static yX10_in ∈ lw_tbl := List.mem_of_getElem? (i := 999) (by decide +kernel)
set_option maxRecDepth 100000 in
theorem m_1000 : Cond.code yX10_in cX10_in 3 (some FieldType.boolean) ∈ lw_tbl := List.mem_of_getElem? (i := 1000) (by rfl)
set_option maxRecDepth 100000 in
theorem m_1001 : Cond.constant RX10 90 (-1000000001) ∈ lw_tbl := List.mem_of_getElem? (i := 1001) (by decide +kernel)
set_option maxRecDepth 100000 in
theorem m_1002 : Cond.methodLink RX10 91 yX10_error ∈ lw_tbl := List.mem_of_getElem? (i := 1002) (by decide +kernel)
set_option maxRecDepth 100000 in
theorem m_1004 : Cond.instanceMethod yX10_error ∈ lw_tbl := List.mem_of_getElem? (i := 1004) (by decide +kernel)
set_option maxRecDepth 100000 in
theorem m_1005 : Cond.code yX10_error cX10_error 2 (some FieldType.int) ∈ lw_tbl := List.mem_of_getElem? (i := 1005) (by rfl)
set_option maxRecDepth 100000 in
theorem m_1006 : Cond.constant RX10 46 (-1000000000) ∈ lw_tbl := List.mem_of_getElem? (i := 1006) (by decide +kernel)
set_option maxRecDepth 100000 in
theorem m_1007 : Cond.constant RX10 94 (-1000000004) ∈ lw_tbl := List.mem_of_getElem? (i := 1007) (by decide +kernel)
set_option maxRecDepth 100000 in
theorem m_1008 : Cond.methodLink RX10 95 yX10_puts ∈ lw_tbl := List.mem_of_getElem? (i := 1008) (by decide +kernel)
set_option maxRecDepth 100000 in
theorem m_1010 : Cond.instanceMethod yX10_puts ∈ lw_tbl := List.mem_of_getElem? (i := 1010) (by decide +kernel)
set_option maxRecDepth 100000 in
theorem m_1011 : Cond.code yX10_puts cX10_puts 4 none ∈ lw_tbl := List.mem_of_getElem? (i := 1011) (by rfl)
set_option maxRecDepth 100000 in
theorem m_1012 : Cond.methodLink RL 21 yX10_personIs ∈ lw_tbl := List.mem_of_getElem? (i := 1012) (by decide +kernel)
set_option maxRecDepth 100000 in
theorem m_1013 : Cond.instanceMethod yX10_personIs ∈ lw_tbl := List.mem_of_getElem? (i := 1013) (by decide +kernel)
set_option maxRecDepth 100000 in
theorem m_1014 : Cond.selects RX10 yX10_personIs yX10_personIs ∈ lw_tbl := List.mem_of_getElem? (i := 1014) (by decide +kernel)
set_option maxRecDepth 100000 in
theorem m_1015 : Cond.code yX10_personIs cX10_personIs 3 (some FieldType.int) ∈ lw_tbl := List.mem_of_getElem? (i := 1015) (by rfl)
set_option maxRecDepth 100000 in
theorem m_1016 : Cond.methodLink RX10 99 yX10_isPerson ∈ lw_tbl := List.mem_of_getElem? (i := 1016) (by decide +kernel)
set_option maxRecDepth 100000 in
theorem m_1018 : Cond.instanceMethod yX10_isPerson ∈ lw_tbl := List.mem_of_getElem? (i := 1018) (by decide +kernel)
set_option maxRecDepth 100000 in
theorem m_1019 : Cond.code yX10_isPerson cX10_isPerson 2 (some FieldType.boolean) ∈ lw_tbl := List.mem_of_getElem? (i := 1019) (by rfl)
set_option maxRecDepth 100000 in
theorem m_1020 : Cond.methodLink RX10 55 yX10_of ∈ lw_tbl := List.mem_of_getElem? (i := 1020) (by decide +kernel)
set_option maxRecDepth 100000 in
theorem m_1022 : Cond.instanceMethod yX10_of ∈ lw_tbl := List.mem_of_getElem? (i := 1022) (by decide +kernel)
set_option maxRecDepth 100000 in
theorem m_1023 : Cond.code yX10_of cX10_of 3 (some FieldType.int) ∈ lw_tbl := List.mem_of_getElem? (i := 1023) (by rfl)
set_option maxRecDepth 100000 in
theorem m_1024 : Cond.methodLink RX10 102 yX10_sight ∈ lw_tbl := List.mem_of_getElem? (i := 1024) (by decide +kernel)
set_option maxRecDepth 100000 in
theorem m_1026 : Cond.instanceMethod yX10_sight ∈ lw_tbl := List.mem_of_getElem? (i := 1026) (by decide +kernel)
set_option maxRecDepth 100000 in
theorem m_1027 : Cond.code yX10_sight cX10_sight 2 (some FieldType.int) ∈ lw_tbl := List.mem_of_getElem? (i := 1027) (by rfl)
set_option maxRecDepth 100000 in
theorem m_1028 : Cond.methodLink RX10 83 yX10_eyes ∈ lw_tbl := List.mem_of_getElem? (i := 1028) (by decide +kernel)
set_option maxRecDepth 100000 in
theorem m_1030 : Cond.instanceMethod yX10_eyes ∈ lw_tbl := List.mem_of_getElem? (i := 1030) (by decide +kernel)
set_option maxRecDepth 100000 in
theorem m_1031 : Cond.code yX10_eyes cX10_eyes 2 (some FieldType.int) ∈ lw_tbl := List.mem_of_getElem? (i := 1031) (by rfl)
set_option maxRecDepth 100000 in
theorem m_1032 : Cond.methodLink RX10 70 yX10_relatives ∈ lw_tbl := List.mem_of_getElem? (i := 1032) (by decide +kernel)
set_option maxRecDepth 100000 in
theorem m_1034 : Cond.instanceMethod yX10_relatives ∈ lw_tbl := List.mem_of_getElem? (i := 1034) (by decide +kernel)
set_option maxRecDepth 100000 in
theorem m_1035 : Cond.code yX10_relatives cX10_relatives 2 (some FieldType.int) ∈ lw_tbl := List.mem_of_getElem? (i := 1035) (by rfl)
set_option maxRecDepth 100000 in
theorem m_1036 : Cond.methodLink RX10 63 yX10_besides ∈ lw_tbl := List.mem_of_getElem? (i := 1036) (by decide +kernel)
set_option maxRecDepth 100000 in
theorem m_1038 : Cond.instanceMethod yX10_besides ∈ lw_tbl := List.mem_of_getElem? (i := 1038) (by decide +kernel)
set_option maxRecDepth 100000 in
theorem m_1039 : Cond.code yX10_besides cX10_besides 5 (some FieldType.int) ∈ lw_tbl := List.mem_of_getElem? (i := 1039) (by rfl)
set_option maxRecDepth 100000 in
theorem m_1040 : Cond.methodLink RX10 59 yX10_isKin ∈ lw_tbl := List.mem_of_getElem? (i := 1040) (by decide +kernel)
set_option maxRecDepth 100000 in
theorem m_1042 : Cond.instanceMethod yX10_isKin ∈ lw_tbl := List.mem_of_getElem? (i := 1042) (by decide +kernel)
set_option maxRecDepth 100000 in
theorem m_1043 : Cond.code yX10_isKin cX10_isKin 3 (some FieldType.boolean) ∈ lw_tbl := List.mem_of_getElem? (i := 1043) (by rfl)
set_option maxRecDepth 100000 in
theorem m_1044 : Cond.methodLink RX10 67 yX10_bits ∈ lw_tbl := List.mem_of_getElem? (i := 1044) (by decide +kernel)
set_option maxRecDepth 100000 in
theorem m_1045 : Cond.static yX10_bits ∈ lw_tbl := List.mem_of_getElem? (i := 1045) (by decide +kernel)
set_option maxRecDepth 100000 in
theorem m_1046 : Cond.code yX10_bits cX10_bits 3 (some FieldType.int) ∈ lw_tbl := List.mem_of_getElem? (i := 1046) (by rfl)
set_option maxRecDepth 100000 in
theorem m_1047 : Cond.methodLink RX10 79 yX10_gives ∈ lw_tbl := List.mem_of_getElem? (i := 1047) (by decide +kernel)
set_option maxRecDepth 100000 in
theorem m_1049 : Cond.instanceMethod yX10_gives ∈ lw_tbl := List.mem_of_getElem? (i := 1049) (by decide +kernel)
set_option maxRecDepth 100000 in
theorem m_1050 : Cond.code yX10_gives cX10_gives 6 (some FieldType.int) ∈ lw_tbl := List.mem_of_getElem? (i := 1050) (by rfl)
set_option maxRecDepth 100000 in
theorem m_1051 : Cond.methodLink RX10 176 yX10_works ∈ lw_tbl := List.mem_of_getElem? (i := 1051) (by decide +kernel)
set_option maxRecDepth 100000 in
theorem m_1053 : Cond.instanceMethod yX10_works ∈ lw_tbl := List.mem_of_getElem? (i := 1053) (by decide +kernel)
set_option maxRecDepth 100000 in
theorem m_1054 : Cond.code yX10_works cX10_works 5 (some FieldType.int) ∈ lw_tbl := List.mem_of_getElem? (i := 1054) (by rfl)
set_option maxRecDepth 100000 in
theorem m_1055 : Cond.methodLink RX10 172 yX10_twoOf ∈ lw_tbl := List.mem_of_getElem? (i := 1055) (by decide +kernel)
set_option maxRecDepth 100000 in
theorem m_1056 : Cond.static yX10_twoOf ∈ lw_tbl := List.mem_of_getElem? (i := 1056) (by decide +kernel)
set_option maxRecDepth 100000 in
theorem m_1057 : Cond.code yX10_twoOf cX10_twoOf 3 (some FieldType.int) ∈ lw_tbl := List.mem_of_getElem? (i := 1057) (by rfl)
set_option maxRecDepth 100000 in
theorem m_1058 : Cond.methodLink RX10 179 yX10_held ∈ lw_tbl := List.mem_of_getElem? (i := 1058) (by decide +kernel)
set_option maxRecDepth 100000 in
theorem m_1059 : Cond.static yX10_held ∈ lw_tbl := List.mem_of_getElem? (i := 1059) (by decide +kernel)
set_option maxRecDepth 100000 in
theorem m_1060 : Cond.code yX10_held cX10_held 3 (some FieldType.int) ∈ lw_tbl := List.mem_of_getElem? (i := 1060) (by rfl)
set_option maxRecDepth 100000 in
theorem m_1061 : Cond.methodLink RL 25 yX10_become ∈ lw_tbl := List.mem_of_getElem? (i := 1061) (by decide +kernel)
set_option maxRecDepth 100000 in
theorem m_1062 : Cond.instanceMethod yX10_become ∈ lw_tbl := List.mem_of_getElem? (i := 1062) (by decide +kernel)
set_option maxRecDepth 100000 in
theorem m_1063 : Cond.selects RX10 yX10_become yX10_become ∈ lw_tbl := List.mem_of_getElem? (i := 1063) (by decide +kernel)
set_option maxRecDepth 100000 in
theorem m_1064 : Cond.code yX10_become cX10_become 3 (some FieldType.int) ∈ lw_tbl := List.mem_of_getElem? (i := 1064) (by rfl)
set_option maxRecDepth 100000 in
theorem m_1065 : Cond.methodLink RX10 105 yX10_becomes ∈ lw_tbl := List.mem_of_getElem? (i := 1065) (by decide +kernel)
set_option maxRecDepth 100000 in
theorem m_1067 : Cond.instanceMethod yX10_becomes ∈ lw_tbl := List.mem_of_getElem? (i := 1067) (by decide +kernel)
set_option maxRecDepth 100000 in
theorem m_1068 : Cond.code yX10_becomes cX10_becomes 4 (some FieldType.int) ∈ lw_tbl := List.mem_of_getElem? (i := 1068) (by rfl)
set_option maxRecDepth 100000 in
theorem m_1069 : Cond.methodLink RL 29 yX10_as ∈ lw_tbl := List.mem_of_getElem? (i := 1069) (by decide +kernel)
set_option maxRecDepth 100000 in
theorem m_1070 : Cond.instanceMethod yX10_as ∈ lw_tbl := List.mem_of_getElem? (i := 1070) (by decide +kernel)
set_option maxRecDepth 100000 in
theorem m_1071 : Cond.selects RX10 yX10_as yX10_as ∈ lw_tbl := List.mem_of_getElem? (i := 1071) (by decide +kernel)
set_option maxRecDepth 100000 in
theorem m_1072 : Cond.code yX10_as cX10_as 5 (some FieldType.int) ∈ lw_tbl := List.mem_of_getElem? (i := 1072) (by rfl)
set_option maxRecDepth 100000 in
theorem m_1073 : Cond.constant RX10 108 (-1000000005) ∈ lw_tbl := List.mem_of_getElem? (i := 1073) (by decide +kernel)
set_option maxRecDepth 100000 in
theorem m_1074 : Cond.methodLink RL 33 yX10_descends ∈ lw_tbl := List.mem_of_getElem? (i := 1074) (by decide +kernel)
set_option maxRecDepth 100000 in
theorem m_1075 : Cond.instanceMethod yX10_descends ∈ lw_tbl := List.mem_of_getElem? (i := 1075) (by decide +kernel)
set_option maxRecDepth 100000 in
theorem m_1076 : Cond.selects RX10 yX10_descends yX10_descends ∈ lw_tbl := List.mem_of_getElem? (i := 1076) (by decide +kernel)
set_option maxRecDepth 100000 in
theorem m_1077 : Cond.code yX10_descends cX10_descends 3 (some FieldType.int) ∈ lw_tbl := List.mem_of_getElem? (i := 1077) (by rfl)
set_option maxRecDepth 100000 in
theorem m_1078 : Cond.methodLink RL 37 yX10_marries ∈ lw_tbl := List.mem_of_getElem? (i := 1078) (by decide +kernel)
set_option maxRecDepth 100000 in
theorem m_1079 : Cond.instanceMethod yX10_marries ∈ lw_tbl := List.mem_of_getElem? (i := 1079) (by decide +kernel)
set_option maxRecDepth 100000 in
theorem m_1080 : Cond.selects RX10 yX10_marries yX10_marries ∈ lw_tbl := List.mem_of_getElem? (i := 1080) (by decide +kernel)
set_option maxRecDepth 100000 in
theorem m_1081 : Cond.code yX10_marries cX10_marries 3 (some FieldType.int) ∈ lw_tbl := List.mem_of_getElem? (i := 1081) (by rfl)
set_option maxRecDepth 100000 in
theorem m_1082 : Cond.constant RX10 109 (-1000000003) ∈ lw_tbl := List.mem_of_getElem? (i := 1082) (by decide +kernel)
set_option maxRecDepth 100000 in
theorem m_1083 : Cond.methodLink RX10 110 yX10_weds ∈ lw_tbl := List.mem_of_getElem? (i := 1083) (by decide +kernel)
set_option maxRecDepth 100000 in
theorem m_1085 : Cond.instanceMethod yX10_weds ∈ lw_tbl := List.mem_of_getElem? (i := 1085) (by decide +kernel)
set_option maxRecDepth 100000 in
theorem m_1086 : Cond.code yX10_weds cX10_weds 3 none ∈ lw_tbl := List.mem_of_getElem? (i := 1086) (by rfl)
set_option maxRecDepth 100000 in
theorem m_1087 : Cond.methodLink RL 42 yX10_parts ∈ lw_tbl := List.mem_of_getElem? (i := 1087) (by decide +kernel)
set_option maxRecDepth 100000 in
theorem m_1088 : Cond.instanceMethod yX10_parts ∈ lw_tbl := List.mem_of_getElem? (i := 1088) (by decide +kernel)
set_option maxRecDepth 100000 in
theorem m_1089 : Cond.selects RX10 yX10_parts yX10_parts ∈ lw_tbl := List.mem_of_getElem? (i := 1089) (by decide +kernel)
set_option maxRecDepth 100000 in
theorem m_1090 : Cond.code yX10_parts cX10_parts 3 (some FieldType.int) ∈ lw_tbl := List.mem_of_getElem? (i := 1090) (by rfl)
set_option maxRecDepth 100000 in
theorem m_1091 : Cond.constant RX10 114 (-1000000002) ∈ lw_tbl := List.mem_of_getElem? (i := 1091) (by decide +kernel)
set_option maxRecDepth 100000 in
theorem m_1092 : Cond.methodLink RL 46 yX10_steps ∈ lw_tbl := List.mem_of_getElem? (i := 1092) (by decide +kernel)
set_option maxRecDepth 100000 in
theorem m_1093 : Cond.instanceMethod yX10_steps ∈ lw_tbl := List.mem_of_getElem? (i := 1093) (by decide +kernel)
set_option maxRecDepth 100000 in
theorem m_1094 : Cond.selects RX10 yX10_steps yX10_steps ∈ lw_tbl := List.mem_of_getElem? (i := 1094) (by decide +kernel)
set_option maxRecDepth 100000 in
theorem m_1095 : Cond.code yX10_steps cX10_steps 3 (some FieldType.int) ∈ lw_tbl := List.mem_of_getElem? (i := 1095) (by rfl)
set_option maxRecDepth 100000 in
theorem m_1096 : Cond.methodLink RX10 73 yX10_stepsBy ∈ lw_tbl := List.mem_of_getElem? (i := 1096) (by decide +kernel)
set_option maxRecDepth 100000 in
theorem m_1098 : Cond.instanceMethod yX10_stepsBy ∈ lw_tbl := List.mem_of_getElem? (i := 1098) (by decide +kernel)
set_option maxRecDepth 100000 in
theorem m_1099 : Cond.code yX10_stepsBy cX10_stepsBy 6 (some FieldType.int) ∈ lw_tbl := List.mem_of_getElem? (i := 1099) (by rfl)
set_option maxRecDepth 100000 in
theorem m_1100 : Cond.methodLink RL 50 yX10_lets ∈ lw_tbl := List.mem_of_getElem? (i := 1100) (by decide +kernel)
set_option maxRecDepth 100000 in
theorem m_1101 : Cond.instanceMethod yX10_lets ∈ lw_tbl := List.mem_of_getElem? (i := 1101) (by decide +kernel)
set_option maxRecDepth 100000 in
theorem m_1102 : Cond.selects RX10 yX10_lets yX10_lets ∈ lw_tbl := List.mem_of_getElem? (i := 1102) (by decide +kernel)
set_option maxRecDepth 100000 in
theorem m_1103 : Cond.code yX10_lets cX10_lets 3 (some FieldType.int) ∈ lw_tbl := List.mem_of_getElem? (i := 1103) (by rfl)
set_option maxRecDepth 100000 in
theorem m_1104 : Cond.methodLink RX10 115 yX10_veils ∈ lw_tbl := List.mem_of_getElem? (i := 1104) (by decide +kernel)
set_option maxRecDepth 100000 in
theorem m_1106 : Cond.instanceMethod yX10_veils ∈ lw_tbl := List.mem_of_getElem? (i := 1106) (by decide +kernel)
set_option maxRecDepth 100000 in
theorem m_1107 : Cond.code yX10_veils cX10_veils 4 (some FieldType.int) ∈ lw_tbl := List.mem_of_getElem? (i := 1107) (by rfl)
set_option maxRecDepth 100000 in
theorem m_1108 : Cond.methodLink RX10 76 yX10_letsBy ∈ lw_tbl := List.mem_of_getElem? (i := 1108) (by decide +kernel)
set_option maxRecDepth 100000 in
theorem m_1110 : Cond.instanceMethod yX10_letsBy ∈ lw_tbl := List.mem_of_getElem? (i := 1110) (by decide +kernel)
set_option maxRecDepth 100000 in
theorem m_1111 : Cond.code yX10_letsBy cX10_letsBy 4 (some FieldType.int) ∈ lw_tbl := List.mem_of_getElem? (i := 1111) (by rfl)
set_option maxRecDepth 100000 in
theorem m_1112 : Cond.methodLink RL 55 yX10_meets ∈ lw_tbl := List.mem_of_getElem? (i := 1112) (by decide +kernel)
set_option maxRecDepth 100000 in
theorem m_1113 : Cond.instanceMethod yX10_meets ∈ lw_tbl := List.mem_of_getElem? (i := 1113) (by decide +kernel)
set_option maxRecDepth 100000 in
theorem m_1114 : Cond.selects RX10 yX10_meets yX10_meets ∈ lw_tbl := List.mem_of_getElem? (i := 1114) (by decide +kernel)
set_option maxRecDepth 100000 in
theorem m_1115 : Cond.code yX10_meets cX10_meets 5 (some FieldType.int) ∈ lw_tbl := List.mem_of_getElem? (i := 1115) (by rfl)
set_option maxRecDepth 100000 in
theorem m_1116 : Cond.methodLink RL 59 yX10_trade ∈ lw_tbl := List.mem_of_getElem? (i := 1116) (by decide +kernel)
set_option maxRecDepth 100000 in
theorem m_1117 : Cond.instanceMethod yX10_trade ∈ lw_tbl := List.mem_of_getElem? (i := 1117) (by decide +kernel)
set_option maxRecDepth 100000 in
theorem m_1118 : Cond.selects RX10 yX10_trade yX10_trade ∈ lw_tbl := List.mem_of_getElem? (i := 1118) (by decide +kernel)
set_option maxRecDepth 100000 in
theorem m_1119 : Cond.code yX10_trade cX10_trade 3 (some FieldType.int) ∈ lw_tbl := List.mem_of_getElem? (i := 1119) (by rfl)
set_option maxRecDepth 100000 in
theorem m_1120 : Cond.methodLink RL 66 yX10_feed ∈ lw_tbl := List.mem_of_getElem? (i := 1120) (by decide +kernel)
set_option maxRecDepth 100000 in
theorem m_1121 : Cond.instanceMethod yX10_feed ∈ lw_tbl := List.mem_of_getElem? (i := 1121) (by decide +kernel)
set_option maxRecDepth 100000 in
theorem m_1122 : Cond.selects RX10 yX10_feed yX10_feed ∈ lw_tbl := List.mem_of_getElem? (i := 1122) (by decide +kernel)
set_option maxRecDepth 100000 in
theorem m_1123 : Cond.code yX10_feed cX10_feed 5 (some FieldType.int) ∈ lw_tbl := List.mem_of_getElem? (i := 1123) (by rfl)
set_option maxRecDepth 100000 in
theorem m_1124 : Cond.constantLong RX10 118 255 ∈ lw_tbl := List.mem_of_getElem? (i := 1124) (by decide +kernel)
set_option maxRecDepth 100000 in
theorem m_1125 : Cond.methodLink RL 70 yX10_text ∈ lw_tbl := List.mem_of_getElem? (i := 1125) (by decide +kernel)
set_option maxRecDepth 100000 in
theorem m_1126 : Cond.instanceMethod yX10_text ∈ lw_tbl := List.mem_of_getElem? (i := 1126) (by decide +kernel)
set_option maxRecDepth 100000 in
theorem m_1127 : Cond.selects RX10 yX10_text yX10_text ∈ lw_tbl := List.mem_of_getElem? (i := 1127) (by decide +kernel)
set_option maxRecDepth 100000 in
theorem m_1128 : Cond.code yX10_text cX10_text 4 (some FieldType.int) ∈ lw_tbl := List.mem_of_getElem? (i := 1128) (by rfl)
set_option maxRecDepth 100000 in
theorem m_1129 : Cond.methodLink RX10 147 yX10_any ∈ lw_tbl := List.mem_of_getElem? (i := 1129) (by decide +kernel)
set_option maxRecDepth 100000 in
theorem m_1131 : Cond.instanceMethod yX10_any ∈ lw_tbl := List.mem_of_getElem? (i := 1131) (by decide +kernel)
set_option maxRecDepth 100000 in
theorem m_1132 : Cond.code yX10_any cX10_any 1 none ∈ lw_tbl := List.mem_of_getElem? (i := 1132) (by rfl)
set_option maxRecDepth 100000 in
theorem m_1133 : Cond.methodLink RX10 169 yX10_all ∈ lw_tbl := List.mem_of_getElem? (i := 1133) (by decide +kernel)
set_option maxRecDepth 100000 in
theorem m_1135 : Cond.instanceMethod yX10_all ∈ lw_tbl := List.mem_of_getElem? (i := 1135) (by decide +kernel)
set_option maxRecDepth 100000 in
theorem m_1136 : Cond.code yX10_all cX10_all 1 none ∈ lw_tbl := List.mem_of_getElem? (i := 1136) (by rfl)
set_option maxRecDepth 100000 in
theorem m_1137 : Cond.methodLink RX10 166 yX10_compares ∈ lw_tbl := List.mem_of_getElem? (i := 1137) (by decide +kernel)
set_option maxRecDepth 100000 in
theorem m_1139 : Cond.instanceMethod yX10_compares ∈ lw_tbl := List.mem_of_getElem? (i := 1139) (by decide +kernel)
set_option maxRecDepth 100000 in
theorem m_1140 : Cond.code yX10_compares cX10_compares 2 none ∈ lw_tbl := List.mem_of_getElem? (i := 1140) (by rfl)
set_option maxRecDepth 100000 in
theorem m_1141 : Cond.methodLink RX10 163 yX10_sum ∈ lw_tbl := List.mem_of_getElem? (i := 1141) (by decide +kernel)
set_option maxRecDepth 100000 in
theorem m_1143 : Cond.instanceMethod yX10_sum ∈ lw_tbl := List.mem_of_getElem? (i := 1143) (by decide +kernel)
set_option maxRecDepth 100000 in
theorem m_1144 : Cond.code yX10_sum cX10_sum 2 none ∈ lw_tbl := List.mem_of_getElem? (i := 1144) (by rfl)
set_option maxRecDepth 100000 in
theorem m_1145 : Cond.methodLink RX10 160 yX10_times ∈ lw_tbl := List.mem_of_getElem? (i := 1145) (by decide +kernel)
set_option maxRecDepth 100000 in
theorem m_1147 : Cond.instanceMethod yX10_times ∈ lw_tbl := List.mem_of_getElem? (i := 1147) (by decide +kernel)
set_option maxRecDepth 100000 in
theorem m_1148 : Cond.code yX10_times cX10_times 2 none ∈ lw_tbl := List.mem_of_getElem? (i := 1148) (by rfl)
set_option maxRecDepth 100000 in
theorem m_1149 : Cond.methodLink RX10 144 yX10_one ∈ lw_tbl := List.mem_of_getElem? (i := 1149) (by decide +kernel)
set_option maxRecDepth 100000 in
theorem m_1151 : Cond.instanceMethod yX10_one ∈ lw_tbl := List.mem_of_getElem? (i := 1151) (by decide +kernel)
set_option maxRecDepth 100000 in
theorem m_1152 : Cond.code yX10_one cX10_one 3 none ∈ lw_tbl := List.mem_of_getElem? (i := 1152) (by rfl)
set_option maxRecDepth 100000 in
theorem m_1153 : Cond.methodLink RX10 130 yX10_look ∈ lw_tbl := List.mem_of_getElem? (i := 1153) (by decide +kernel)
set_option maxRecDepth 100000 in
theorem m_1155 : Cond.instanceMethod yX10_look ∈ lw_tbl := List.mem_of_getElem? (i := 1155) (by decide +kernel)
set_option maxRecDepth 100000 in
theorem m_1156 : Cond.code yX10_look cX10_look 1 (some FieldType.int) ∈ lw_tbl := List.mem_of_getElem? (i := 1156) (by rfl)
set_option maxRecDepth 100000 in
theorem m_1157 : Cond.methodLink RX10 150 yX10_nameOf ∈ lw_tbl := List.mem_of_getElem? (i := 1157) (by decide +kernel)
set_option maxRecDepth 100000 in
theorem m_1159 : Cond.instanceMethod yX10_nameOf ∈ lw_tbl := List.mem_of_getElem? (i := 1159) (by decide +kernel)
set_option maxRecDepth 100000 in
theorem m_1160 : Cond.code yX10_nameOf cX10_nameOf 2 (some FieldType.int) ∈ lw_tbl := List.mem_of_getElem? (i := 1160) (by rfl)
set_option maxRecDepth 100000 in
theorem m_1161 : Cond.methodLink RX10 138 yX10_lays ∈ lw_tbl := List.mem_of_getElem? (i := 1161) (by decide +kernel)
set_option maxRecDepth 100000 in
theorem m_1163 : Cond.instanceMethod yX10_lays ∈ lw_tbl := List.mem_of_getElem? (i := 1163) (by decide +kernel)
set_option maxRecDepth 100000 in
theorem m_1164 : Cond.code yX10_lays cX10_lays 3 none ∈ lw_tbl := List.mem_of_getElem? (i := 1164) (by rfl)
set_option maxRecDepth 100000 in
theorem m_1165 : Cond.methodLink RX10 153 yX10_opens ∈ lw_tbl := List.mem_of_getElem? (i := 1165) (by decide +kernel)
set_option maxRecDepth 100000 in
theorem m_1167 : Cond.instanceMethod yX10_opens ∈ lw_tbl := List.mem_of_getElem? (i := 1167) (by decide +kernel)
set_option maxRecDepth 100000 in
theorem m_1168 : Cond.code yX10_opens cX10_opens 2 none ∈ lw_tbl := List.mem_of_getElem? (i := 1168) (by rfl)
set_option maxRecDepth 100000 in
theorem m_1169 : Cond.methodLink RX10 157 yX10_number ∈ lw_tbl := List.mem_of_getElem? (i := 1169) (by decide +kernel)
set_option maxRecDepth 100000 in
theorem m_1171 : Cond.instanceMethod yX10_number ∈ lw_tbl := List.mem_of_getElem? (i := 1171) (by decide +kernel)
set_option maxRecDepth 100000 in
theorem m_1172 : Cond.code yX10_number cX10_number 3 none ∈ lw_tbl := List.mem_of_getElem? (i := 1172) (by rfl)
set_option maxRecDepth 100000 in
theorem m_1173 : Cond.methodLink RL 74 yX10_untell ∈ lw_tbl := List.mem_of_getElem? (i := 1173) (by decide +kernel)
set_option maxRecDepth 100000 in
theorem m_1174 : Cond.instanceMethod yX10_untell ∈ lw_tbl := List.mem_of_getElem? (i := 1174) (by decide +kernel)
set_option maxRecDepth 100000 in
theorem m_1175 : Cond.selects RX10 yX10_untell yX10_untell ∈ lw_tbl := List.mem_of_getElem? (i := 1175) (by decide +kernel)
set_option maxRecDepth 100000 in
theorem m_1176 : Cond.code yX10_untell cX10_untell 2 (some FieldType.int) ∈ lw_tbl := List.mem_of_getElem? (i := 1176) (by rfl)
set_option maxRecDepth 100000 in
theorem m_1177 : Cond.methodLink RL 79 yX10_law ∈ lw_tbl := List.mem_of_getElem? (i := 1177) (by decide +kernel)
set_option maxRecDepth 100000 in
theorem m_1178 : Cond.instanceMethod yX10_law ∈ lw_tbl := List.mem_of_getElem? (i := 1178) (by decide +kernel)
set_option maxRecDepth 100000 in
theorem m_1179 : Cond.selects RX10 yX10_law yX10_law ∈ lw_tbl := List.mem_of_getElem? (i := 1179) (by decide +kernel)
set_option maxRecDepth 100000 in
theorem m_1180 : Cond.code yX10_law cX10_law 5 (some FieldType.int) ∈ lw_tbl := List.mem_of_getElem? (i := 1180) (by rfl)
set_option maxRecDepth 100000 in
theorem m_1181 : Cond.methodLink RL 83 yX10_years ∈ lw_tbl := List.mem_of_getElem? (i := 1181) (by decide +kernel)
set_option maxRecDepth 100000 in
theorem m_1182 : Cond.instanceMethod yX10_years ∈ lw_tbl := List.mem_of_getElem? (i := 1182) (by decide +kernel)
set_option maxRecDepth 100000 in
theorem m_1183 : Cond.selects RX10 yX10_years yX10_years ∈ lw_tbl := List.mem_of_getElem? (i := 1183) (by decide +kernel)
set_option maxRecDepth 100000 in
theorem m_1184 : Cond.code yX10_years cX10_years 2 (some FieldType.int) ∈ lw_tbl := List.mem_of_getElem? (i := 1184) (by rfl)
set_option maxRecDepth 100000 in
theorem m_1185 : Cond.methodLink RX10 185 yX10_goesFor ∈ lw_tbl := List.mem_of_getElem? (i := 1185) (by decide +kernel)
set_option maxRecDepth 100000 in
theorem m_1187 : Cond.instanceMethod yX10_goesFor ∈ lw_tbl := List.mem_of_getElem? (i := 1187) (by decide +kernel)
set_option maxRecDepth 100000 in
theorem m_1188 : Cond.code yX10_goesFor cX10_goesFor 3 none ∈ lw_tbl := List.mem_of_getElem? (i := 1188) (by rfl)
set_option maxRecDepth 100000 in
theorem m_1189 : Cond.methodLink RX10 182 yX10_goes ∈ lw_tbl := List.mem_of_getElem? (i := 1189) (by decide +kernel)
set_option maxRecDepth 100000 in
theorem m_1191 : Cond.instanceMethod yX10_goes ∈ lw_tbl := List.mem_of_getElem? (i := 1191) (by decide +kernel)
set_option maxRecDepth 100000 in
theorem m_1192 : Cond.code yX10_goes cX10_goes 4 none ∈ lw_tbl := List.mem_of_getElem? (i := 1192) (by rfl)
set_option maxRecDepth 100000 in
theorem m_1193 : Cond.methodLink RX10 188 yX10_allSeen ∈ lw_tbl := List.mem_of_getElem? (i := 1193) (by decide +kernel)
set_option maxRecDepth 100000 in
theorem m_1195 : Cond.instanceMethod yX10_allSeen ∈ lw_tbl := List.mem_of_getElem? (i := 1195) (by decide +kernel)
set_option maxRecDepth 100000 in
theorem m_1196 : Cond.code yX10_allSeen cX10_allSeen 3 (some FieldType.int) ∈ lw_tbl := List.mem_of_getElem? (i := 1196) (by rfl)
set_option maxRecDepth 100000 in
theorem m_1197 : Cond.methodLink RL 87 yX10_loose ∈ lw_tbl := List.mem_of_getElem? (i := 1197) (by decide +kernel)
set_option maxRecDepth 100000 in
theorem m_1198 : Cond.instanceMethod yX10_loose ∈ lw_tbl := List.mem_of_getElem? (i := 1198) (by decide +kernel)
set_option maxRecDepth 100000 in
theorem m_1199 : Cond.selects RX10 yX10_loose yX10_loose ∈ lw_tbl := List.mem_of_getElem? (i := 1199) (by decide +kernel)
set_option maxRecDepth 100000 in
theorem m_1200 : Cond.code yX10_loose cX10_loose 3 (some FieldType.int) ∈ lw_tbl := List.mem_of_getElem? (i := 1200) (by rfl)
set_option maxRecDepth 100000 in
theorem m_1201 : Cond.methodLink RX10 195 yX10_drawn ∈ lw_tbl := List.mem_of_getElem? (i := 1201) (by decide +kernel)
set_option maxRecDepth 100000 in
theorem m_1203 : Cond.instanceMethod yX10_drawn ∈ lw_tbl := List.mem_of_getElem? (i := 1203) (by decide +kernel)
set_option maxRecDepth 100000 in
theorem m_1204 : Cond.code yX10_drawn cX10_drawn 2 none ∈ lw_tbl := List.mem_of_getElem? (i := 1204) (by rfl)
set_option maxRecDepth 100000 in
theorem m_1205 : Cond.methodLink RX10 192 yX10_draw ∈ lw_tbl := List.mem_of_getElem? (i := 1205) (by decide +kernel)
set_option maxRecDepth 100000 in
theorem m_1207 : Cond.instanceMethod yX10_draw ∈ lw_tbl := List.mem_of_getElem? (i := 1207) (by decide +kernel)
set_option maxRecDepth 100000 in
theorem m_1208 : Cond.code yX10_draw cX10_draw 1 (some FieldType.int) ∈ lw_tbl := List.mem_of_getElem? (i := 1208) (by rfl)
set_option maxRecDepth 100000 in
theorem m_1209 : Cond.constant RX10 191 1103515245 ∈ lw_tbl := List.mem_of_getElem? (i := 1209) (by decide +kernel)
set_option maxRecDepth 100000 in
theorem m_1210 : Cond.methodLink RL 91 yX10_year ∈ lw_tbl := List.mem_of_getElem? (i := 1210) (by decide +kernel)
set_option maxRecDepth 100000 in
theorem m_1211 : Cond.instanceMethod yX10_year ∈ lw_tbl := List.mem_of_getElem? (i := 1211) (by decide +kernel)
set_option maxRecDepth 100000 in
theorem m_1212 : Cond.selects RX10 yX10_year yX10_year ∈ lw_tbl := List.mem_of_getElem? (i := 1212) (by decide +kernel)
set_option maxRecDepth 100000 in
theorem m_1213 : Cond.code yX10_year cX10_year 2 (some FieldType.int) ∈ lw_tbl := List.mem_of_getElem? (i := 1213) (by rfl)
set_option maxRecDepth 100000 in
theorem m_1214 : Cond.methodLink RL 95 yX10_seed ∈ lw_tbl := List.mem_of_getElem? (i := 1214) (by decide +kernel)
set_option maxRecDepth 100000 in
theorem m_1215 : Cond.instanceMethod yX10_seed ∈ lw_tbl := List.mem_of_getElem? (i := 1215) (by decide +kernel)
set_option maxRecDepth 100000 in
theorem m_1216 : Cond.selects RX10 yX10_seed yX10_seed ∈ lw_tbl := List.mem_of_getElem? (i := 1216) (by decide +kernel)
set_option maxRecDepth 100000 in
theorem m_1217 : Cond.code yX10_seed cX10_seed 2 (some FieldType.int) ∈ lw_tbl := List.mem_of_getElem? (i := 1217) (by rfl)
set_option maxRecDepth 100000 in
theorem m_1218 : Cond.methodLink RL 99 yX10_then ∈ lw_tbl := List.mem_of_getElem? (i := 1218) (by decide +kernel)
set_option maxRecDepth 100000 in
theorem m_1219 : Cond.instanceMethod yX10_then ∈ lw_tbl := List.mem_of_getElem? (i := 1219) (by decide +kernel)
set_option maxRecDepth 100000 in
theorem m_1220 : Cond.selects RX10 yX10_then yX10_then ∈ lw_tbl := List.mem_of_getElem? (i := 1220) (by decide +kernel)
set_option maxRecDepth 100000 in
theorem m_1221 : Cond.code yX10_then cX10_then 4 (some FieldType.int) ∈ lw_tbl := List.mem_of_getElem? (i := 1221) (by rfl)
set_option maxRecDepth 100000 in
theorem m_1222 : Cond.methodLink RX10 198 yX10_thinks ∈ lw_tbl := List.mem_of_getElem? (i := 1222) (by decide +kernel)
set_option maxRecDepth 100000 in
theorem m_1224 : Cond.instanceMethod yX10_thinks ∈ lw_tbl := List.mem_of_getElem? (i := 1224) (by decide +kernel)
set_option maxRecDepth 100000 in
theorem m_1225 : Cond.code yX10_thinks cX10_thinks 1 none ∈ lw_tbl := List.mem_of_getElem? (i := 1225) (by rfl)
set_option maxRecDepth 100000 in
theorem m_1226 : Cond.methodLink RX10 47 yX10_copyAll ∈ lw_tbl := List.mem_of_getElem? (i := 1226) (by decide +kernel)
set_option maxRecDepth 100000 in
theorem m_1227 : Cond.static yX10_copyAll ∈ lw_tbl := List.mem_of_getElem? (i := 1227) (by decide +kernel)
set_option maxRecDepth 100000 in
theorem m_1228 : Cond.code yX10_copyAll cX10_copyAll 3 none ∈ lw_tbl := List.mem_of_getElem? (i := 1228) (by rfl)
set_option maxRecDepth 100000 in
theorem m_1229 : Cond.methodLink RX10 201 yX10_putsBack ∈ lw_tbl := List.mem_of_getElem? (i := 1229) (by decide +kernel)
set_option maxRecDepth 100000 in
theorem m_1231 : Cond.instanceMethod yX10_putsBack ∈ lw_tbl := List.mem_of_getElem? (i := 1231) (by decide +kernel)
set_option maxRecDepth 100000 in
theorem m_1232 : Cond.code yX10_putsBack cX10_putsBack 1 none ∈ lw_tbl := List.mem_of_getElem? (i := 1232) (by rfl)
set_option maxRecDepth 100000 in
theorem m_1233 : Cond.methodLink RL 103 yX10_soonest ∈ lw_tbl := List.mem_of_getElem? (i := 1233) (by decide +kernel)
set_option maxRecDepth 100000 in
theorem m_1234 : Cond.instanceMethod yX10_soonest ∈ lw_tbl := List.mem_of_getElem? (i := 1234) (by decide +kernel)
set_option maxRecDepth 100000 in
theorem m_1235 : Cond.selects RX10 yX10_soonest yX10_soonest ∈ lw_tbl := List.mem_of_getElem? (i := 1235) (by decide +kernel)
set_option maxRecDepth 100000 in
theorem m_1236 : Cond.code yX10_soonest cX10_soonest 4 (some FieldType.int) ∈ lw_tbl := List.mem_of_getElem? (i := 1236) (by rfl)
set_option maxRecDepth 100000 in
theorem m_1237 : Cond.methodLink RL 107 yX10_match ∈ lw_tbl := List.mem_of_getElem? (i := 1237) (by decide +kernel)
set_option maxRecDepth 100000 in
theorem m_1238 : Cond.instanceMethod yX10_match ∈ lw_tbl := List.mem_of_getElem? (i := 1238) (by decide +kernel)
set_option maxRecDepth 100000 in
theorem m_1239 : Cond.selects RX10 yX10_match yX10_match ∈ lw_tbl := List.mem_of_getElem? (i := 1239) (by decide +kernel)
set_option maxRecDepth 100000 in
theorem m_1240 : Cond.code yX10_match cX10_match 9 (some FieldType.int) ∈ lw_tbl := List.mem_of_getElem? (i := 1240) (by rfl)
set_option maxRecDepth 100000 in
theorem m_1241 : Cond.methodLink RL 111 yX10_orderFor ∈ lw_tbl := List.mem_of_getElem? (i := 1241) (by decide +kernel)
set_option maxRecDepth 100000 in
theorem m_1242 : Cond.instanceMethod yX10_orderFor ∈ lw_tbl := List.mem_of_getElem? (i := 1242) (by decide +kernel)
set_option maxRecDepth 100000 in
theorem m_1243 : Cond.selects RX10 yX10_orderFor yX10_orderFor ∈ lw_tbl := List.mem_of_getElem? (i := 1243) (by decide +kernel)
set_option maxRecDepth 100000 in
theorem m_1244 : Cond.code yX10_orderFor cX10_orderFor 6 (some FieldType.int) ∈ lw_tbl := List.mem_of_getElem? (i := 1244) (by rfl)
set_option maxRecDepth 100000 in
theorem m_1245 : Cond.methodLink RX10 204 yX10_seersOf ∈ lw_tbl := List.mem_of_getElem? (i := 1245) (by decide +kernel)
set_option maxRecDepth 100000 in
theorem m_1247 : Cond.instanceMethod yX10_seersOf ∈ lw_tbl := List.mem_of_getElem? (i := 1247) (by decide +kernel)
set_option maxRecDepth 100000 in
theorem m_1248 : Cond.code yX10_seersOf cX10_seersOf 4 (some FieldType.int) ∈ lw_tbl := List.mem_of_getElem? (i := 1248) (by rfl)
set_option maxRecDepth 100000 in
theorem m_1249 : Cond.methodLink RL 115 yX10_seers ∈ lw_tbl := List.mem_of_getElem? (i := 1249) (by decide +kernel)
set_option maxRecDepth 100000 in
theorem m_1250 : Cond.instanceMethod yX10_seers ∈ lw_tbl := List.mem_of_getElem? (i := 1250) (by decide +kernel)
set_option maxRecDepth 100000 in
theorem m_1251 : Cond.selects RX10 yX10_seers yX10_seers ∈ lw_tbl := List.mem_of_getElem? (i := 1251) (by decide +kernel)
set_option maxRecDepth 100000 in
theorem m_1252 : Cond.code yX10_seers cX10_seers 2 (some FieldType.int) ∈ lw_tbl := List.mem_of_getElem? (i := 1252) (by rfl)
set_option maxRecDepth 100000 in
theorem m_1253 : Cond.methodLink RL 119 yX10_witnesses ∈ lw_tbl := List.mem_of_getElem? (i := 1253) (by decide +kernel)
set_option maxRecDepth 100000 in
theorem m_1254 : Cond.instanceMethod yX10_witnesses ∈ lw_tbl := List.mem_of_getElem? (i := 1254) (by decide +kernel)
set_option maxRecDepth 100000 in
theorem m_1255 : Cond.selects RX10 yX10_witnesses yX10_witnesses ∈ lw_tbl := List.mem_of_getElem? (i := 1255) (by decide +kernel)
set_option maxRecDepth 100000 in
theorem m_1256 : Cond.code yX10_witnesses cX10_witnesses 5 (some FieldType.int) ∈ lw_tbl := List.mem_of_getElem? (i := 1256) (by rfl)
set_option maxRecDepth 100000 in
theorem m_1257 : Cond.methodLink RX10 207 yX10_everybody ∈ lw_tbl := List.mem_of_getElem? (i := 1257) (by decide +kernel)
set_option maxRecDepth 100000 in
theorem m_1259 : Cond.instanceMethod yX10_everybody ∈ lw_tbl := List.mem_of_getElem? (i := 1259) (by decide +kernel)
set_option maxRecDepth 100000 in
theorem m_1260 : Cond.code yX10_everybody cX10_everybody 1 (some FieldType.int) ∈ lw_tbl := List.mem_of_getElem? (i := 1260) (by rfl)
set_option maxRecDepth 100000 in
theorem m_1261 : Cond.methodLink RX10 210 yX10_seenBy ∈ lw_tbl := List.mem_of_getElem? (i := 1261) (by decide +kernel)
set_option maxRecDepth 100000 in
theorem m_1263 : Cond.instanceMethod yX10_seenBy ∈ lw_tbl := List.mem_of_getElem? (i := 1263) (by decide +kernel)
set_option maxRecDepth 100000 in
theorem m_1264 : Cond.code yX10_seenBy cX10_seenBy 4 (some FieldType.int) ∈ lw_tbl := List.mem_of_getElem? (i := 1264) (by rfl)
set_option maxRecDepth 100000 in
theorem m_1265 : Cond.methodLink RL 123 yX10_odds ∈ lw_tbl := List.mem_of_getElem? (i := 1265) (by decide +kernel)
set_option maxRecDepth 100000 in
theorem m_1266 : Cond.instanceMethod yX10_odds ∈ lw_tbl := List.mem_of_getElem? (i := 1266) (by decide +kernel)
set_option maxRecDepth 100000 in
theorem m_1267 : Cond.selects RX10 yX10_odds yX10_odds ∈ lw_tbl := List.mem_of_getElem? (i := 1267) (by decide +kernel)
set_option maxRecDepth 100000 in
theorem m_1268 : Cond.code yX10_odds cX10_odds 6 (some FieldType.int) ∈ lw_tbl := List.mem_of_getElem? (i := 1268) (by rfl)
set_option maxRecDepth 100000 in
theorem m_1269 : Cond.methodLink RL 127 yX10_fits ∈ lw_tbl := List.mem_of_getElem? (i := 1269) (by decide +kernel)
set_option maxRecDepth 100000 in
theorem m_1270 : Cond.instanceMethod yX10_fits ∈ lw_tbl := List.mem_of_getElem? (i := 1270) (by decide +kernel)
set_option maxRecDepth 100000 in
theorem m_1271 : Cond.selects RX10 yX10_fits yX10_fits ∈ lw_tbl := List.mem_of_getElem? (i := 1271) (by decide +kernel)
set_option maxRecDepth 100000 in
theorem m_1272 : Cond.code yX10_fits cX10_fits 6 (some FieldType.int) ∈ lw_tbl := List.mem_of_getElem? (i := 1272) (by rfl)
set_option maxRecDepth 100000 in
theorem m_1273 : Cond.methodLink RX10 213 yX10_isSheet ∈ lw_tbl := List.mem_of_getElem? (i := 1273) (by decide +kernel)
set_option maxRecDepth 100000 in
theorem m_1274 : Cond.static yX10_isSheet ∈ lw_tbl := List.mem_of_getElem? (i := 1274) (by decide +kernel)
set_option maxRecDepth 100000 in
theorem m_1275 : Cond.code yX10_isSheet cX10_isSheet 1 (some FieldType.boolean) ∈ lw_tbl := List.mem_of_getElem? (i := 1275) (by rfl)
set_option maxRecDepth 100000 in
theorem m_1276 : Cond.methodLink RX10 216 yX10_isSo ∈ lw_tbl := List.mem_of_getElem? (i := 1276) (by decide +kernel)
set_option maxRecDepth 100000 in
theorem m_1278 : Cond.instanceMethod yX10_isSo ∈ lw_tbl := List.mem_of_getElem? (i := 1278) (by decide +kernel)
set_option maxRecDepth 100000 in
theorem m_1279 : Cond.code yX10_isSo cX10_isSo 5 (some FieldType.boolean) ∈ lw_tbl := List.mem_of_getElem? (i := 1279) (by rfl)
set_option maxRecDepth 100000 in
theorem m_1280 : Cond.methodLink RL 131 yX10_voice ∈ lw_tbl := List.mem_of_getElem? (i := 1280) (by decide +kernel)
set_option maxRecDepth 100000 in
theorem m_1281 : Cond.instanceMethod yX10_voice ∈ lw_tbl := List.mem_of_getElem? (i := 1281) (by decide +kernel)
set_option maxRecDepth 100000 in
theorem m_1282 : Cond.selects RX10 yX10_voice yX10_voice ∈ lw_tbl := List.mem_of_getElem? (i := 1282) (by decide +kernel)
set_option maxRecDepth 100000 in
theorem m_1283 : Cond.code yX10_voice cX10_voice 5 (some FieldType.int) ∈ lw_tbl := List.mem_of_getElem? (i := 1283) (by rfl)
set_option maxRecDepth 100000 in
theorem m_1284 : Cond.methodLink RX10 231 yX10_lowers ∈ lw_tbl := List.mem_of_getElem? (i := 1284) (by decide +kernel)
set_option maxRecDepth 100000 in
theorem m_1286 : Cond.instanceMethod yX10_lowers ∈ lw_tbl := List.mem_of_getElem? (i := 1286) (by decide +kernel)
set_option maxRecDepth 100000 in
theorem m_1287 : Cond.code yX10_lowers cX10_lowers 3 (some FieldType.int) ∈ lw_tbl := List.mem_of_getElem? (i := 1287) (by rfl)
set_option maxRecDepth 100000 in
theorem m_1288 : Cond.methodLink RX10 228 yX10_heiressLowers ∈ lw_tbl := List.mem_of_getElem? (i := 1288) (by decide +kernel)
set_option maxRecDepth 100000 in
theorem m_1290 : Cond.instanceMethod yX10_heiressLowers ∈ lw_tbl := List.mem_of_getElem? (i := 1290) (by decide +kernel)
set_option maxRecDepth 100000 in
theorem m_1291 : Cond.code yX10_heiressLowers cX10_heiressLowers 3 (some FieldType.int) ∈ lw_tbl := List.mem_of_getElem? (i := 1291) (by rfl)
set_option maxRecDepth 100000 in
theorem m_1292 : Cond.methodLink RX10 222 yX10_begins ∈ lw_tbl := List.mem_of_getElem? (i := 1292) (by decide +kernel)
set_option maxRecDepth 100000 in
theorem m_1294 : Cond.instanceMethod yX10_begins ∈ lw_tbl := List.mem_of_getElem? (i := 1294) (by decide +kernel)
set_option maxRecDepth 100000 in
theorem m_1295 : Cond.code yX10_begins cX10_begins 2 none ∈ lw_tbl := List.mem_of_getElem? (i := 1295) (by rfl)
set_option maxRecDepth 100000 in
theorem m_1296 : Cond.methodLink RX10 225 yX10_plainLowers ∈ lw_tbl := List.mem_of_getElem? (i := 1296) (by decide +kernel)
set_option maxRecDepth 100000 in
theorem m_1298 : Cond.instanceMethod yX10_plainLowers ∈ lw_tbl := List.mem_of_getElem? (i := 1298) (by decide +kernel)
set_option maxRecDepth 100000 in
theorem m_1299 : Cond.code yX10_plainLowers cX10_plainLowers 3 (some FieldType.int) ∈ lw_tbl := List.mem_of_getElem? (i := 1299) (by rfl)
set_option maxRecDepth 100000 in
theorem m_1300 : Cond.methodLink RX10 240 yX10_lifts ∈ lw_tbl := List.mem_of_getElem? (i := 1300) (by decide +kernel)
set_option maxRecDepth 100000 in
theorem m_1302 : Cond.instanceMethod yX10_lifts ∈ lw_tbl := List.mem_of_getElem? (i := 1302) (by decide +kernel)
set_option maxRecDepth 100000 in
theorem m_1303 : Cond.code yX10_lifts cX10_lifts 3 (some FieldType.int) ∈ lw_tbl := List.mem_of_getElem? (i := 1303) (by rfl)
set_option maxRecDepth 100000 in
theorem m_1304 : Cond.methodLink RX10 237 yX10_judgeLifts ∈ lw_tbl := List.mem_of_getElem? (i := 1304) (by decide +kernel)
set_option maxRecDepth 100000 in
theorem m_1306 : Cond.instanceMethod yX10_judgeLifts ∈ lw_tbl := List.mem_of_getElem? (i := 1306) (by decide +kernel)
set_option maxRecDepth 100000 in
theorem m_1307 : Cond.code yX10_judgeLifts cX10_judgeLifts 3 (some FieldType.int) ∈ lw_tbl := List.mem_of_getElem? (i := 1307) (by rfl)
set_option maxRecDepth 100000 in
theorem m_1308 : Cond.methodLink RX10 234 yX10_plainLifts ∈ lw_tbl := List.mem_of_getElem? (i := 1308) (by decide +kernel)
set_option maxRecDepth 100000 in
theorem m_1310 : Cond.instanceMethod yX10_plainLifts ∈ lw_tbl := List.mem_of_getElem? (i := 1310) (by decide +kernel)
set_option maxRecDepth 100000 in
theorem m_1311 : Cond.code yX10_plainLifts cX10_plainLifts 3 (some FieldType.int) ∈ lw_tbl := List.mem_of_getElem? (i := 1311) (by rfl)
set_option maxRecDepth 100000 in
theorem m_1312 : Cond.methodLink RX10 252 yX10_looksBy ∈ lw_tbl := List.mem_of_getElem? (i := 1312) (by decide +kernel)
set_option maxRecDepth 100000 in
theorem m_1314 : Cond.instanceMethod yX10_looksBy ∈ lw_tbl := List.mem_of_getElem? (i := 1314) (by decide +kernel)
set_option maxRecDepth 100000 in
theorem m_1315 : Cond.code yX10_looksBy cX10_looksBy 3 (some FieldType.int) ∈ lw_tbl := List.mem_of_getElem? (i := 1315) (by rfl)
set_option maxRecDepth 100000 in
theorem m_1316 : Cond.methodLink RX10 243 yX10_plainLooks ∈ lw_tbl := List.mem_of_getElem? (i := 1316) (by decide +kernel)
set_option maxRecDepth 100000 in
theorem m_1318 : Cond.instanceMethod yX10_plainLooks ∈ lw_tbl := List.mem_of_getElem? (i := 1318) (by decide +kernel)
set_option maxRecDepth 100000 in
theorem m_1319 : Cond.code yX10_plainLooks cX10_plainLooks 3 (some FieldType.int) ∈ lw_tbl := List.mem_of_getElem? (i := 1319) (by rfl)
set_option maxRecDepth 100000 in
theorem m_1320 : Cond.methodLink RX10 255 yX10_partsBy ∈ lw_tbl := List.mem_of_getElem? (i := 1320) (by decide +kernel)
set_option maxRecDepth 100000 in
theorem m_1322 : Cond.instanceMethod yX10_partsBy ∈ lw_tbl := List.mem_of_getElem? (i := 1322) (by decide +kernel)
set_option maxRecDepth 100000 in
theorem m_1323 : Cond.code yX10_partsBy cX10_partsBy 4 (some FieldType.int) ∈ lw_tbl := List.mem_of_getElem? (i := 1323) (by rfl)
set_option maxRecDepth 100000 in
theorem m_1324 : Cond.methodLink RX10 249 yX10_plainParts ∈ lw_tbl := List.mem_of_getElem? (i := 1324) (by decide +kernel)
set_option maxRecDepth 100000 in
theorem m_1326 : Cond.instanceMethod yX10_plainParts ∈ lw_tbl := List.mem_of_getElem? (i := 1326) (by decide +kernel)
set_option maxRecDepth 100000 in
theorem m_1327 : Cond.code yX10_plainParts cX10_plainParts 4 (some FieldType.int) ∈ lw_tbl := List.mem_of_getElem? (i := 1327) (by rfl)
set_option maxRecDepth 100000 in
theorem m_1328 : Cond.constant RX10 258 (-1000000006) ∈ lw_tbl := List.mem_of_getElem? (i := 1328) (by decide +kernel)
set_option maxRecDepth 100000 in
theorem m_1329 : Cond.methodLink RL 135 yX10_body ∈ lw_tbl := List.mem_of_getElem? (i := 1329) (by decide +kernel)
set_option maxRecDepth 100000 in
theorem m_1330 : Cond.instanceMethod yX10_body ∈ lw_tbl := List.mem_of_getElem? (i := 1330) (by decide +kernel)
set_option maxRecDepth 100000 in
theorem m_1331 : Cond.selects RX10 yX10_body yX10_body ∈ lw_tbl := List.mem_of_getElem? (i := 1331) (by decide +kernel)
set_option maxRecDepth 100000 in
theorem m_1332 : Cond.code yX10_body cX10_body 2 (some FieldType.int) ∈ lw_tbl := List.mem_of_getElem? (i := 1332) (by rfl)
set_option maxRecDepth 100000 in
theorem m_1333 : Cond.methodLink RL 139 yX10_sheet ∈ lw_tbl := List.mem_of_getElem? (i := 1333) (by decide +kernel)
set_option maxRecDepth 100000 in
theorem m_1334 : Cond.instanceMethod yX10_sheet ∈ lw_tbl := List.mem_of_getElem? (i := 1334) (by decide +kernel)
set_option maxRecDepth 100000 in
theorem m_1335 : Cond.selects RX10 yX10_sheet yX10_sheet ∈ lw_tbl := List.mem_of_getElem? (i := 1335) (by decide +kernel)
set_option maxRecDepth 100000 in
theorem m_1336 : Cond.code yX10_sheet cX10_sheet 5 (some FieldType.int) ∈ lw_tbl := List.mem_of_getElem? (i := 1336) (by rfl)
set_option maxRecDepth 100000 in
theorem m_1337 : Cond.methodLink RL 143 yX10_put ∈ lw_tbl := List.mem_of_getElem? (i := 1337) (by decide +kernel)
set_option maxRecDepth 100000 in
theorem m_1338 : Cond.instanceMethod yX10_put ∈ lw_tbl := List.mem_of_getElem? (i := 1338) (by decide +kernel)
set_option maxRecDepth 100000 in
theorem m_1339 : Cond.selects RX10 yX10_put yX10_put ∈ lw_tbl := List.mem_of_getElem? (i := 1339) (by decide +kernel)
set_option maxRecDepth 100000 in
theorem m_1340 : Cond.code yX10_put cX10_put 5 (some FieldType.int) ∈ lw_tbl := List.mem_of_getElem? (i := 1340) (by rfl)
set_option maxRecDepth 100000 in
theorem m_1341 : Cond.methodLink RX10 259 yX10_notThere ∈ lw_tbl := List.mem_of_getElem? (i := 1341) (by decide +kernel)
set_option maxRecDepth 100000 in
theorem m_1343 : Cond.instanceMethod yX10_notThere ∈ lw_tbl := List.mem_of_getElem? (i := 1343) (by decide +kernel)
set_option maxRecDepth 100000 in
theorem m_1344 : Cond.code yX10_notThere cX10_notThere 2 (some FieldType.int) ∈ lw_tbl := List.mem_of_getElem? (i := 1344) (by rfl)
set_option maxRecDepth 100000 in
theorem m_1345 : Cond.methodLink RL 148 yX10_move ∈ lw_tbl := List.mem_of_getElem? (i := 1345) (by decide +kernel)
set_option maxRecDepth 100000 in
theorem m_1346 : Cond.instanceMethod yX10_move ∈ lw_tbl := List.mem_of_getElem? (i := 1346) (by decide +kernel)
set_option maxRecDepth 100000 in
theorem m_1347 : Cond.selects RX10 yX10_move yX10_move ∈ lw_tbl := List.mem_of_getElem? (i := 1347) (by decide +kernel)
set_option maxRecDepth 100000 in
theorem m_1348 : Cond.code yX10_move cX10_move 9 (some FieldType.int) ∈ lw_tbl := List.mem_of_getElem? (i := 1348) (by rfl)
set_option maxRecDepth 100000 in
theorem m_1349 : Cond.methodLink RX10 262 yX10_notMoved ∈ lw_tbl := List.mem_of_getElem? (i := 1349) (by decide +kernel)
set_option maxRecDepth 100000 in
theorem m_1351 : Cond.instanceMethod yX10_notMoved ∈ lw_tbl := List.mem_of_getElem? (i := 1351) (by decide +kernel)
set_option maxRecDepth 100000 in
theorem m_1352 : Cond.code yX10_notMoved cX10_notMoved 7 (some FieldType.int) ∈ lw_tbl := List.mem_of_getElem? (i := 1352) (by rfl)
set_option maxRecDepth 100000 in
theorem m_1353 : Cond.methodLink RL 152 yX10_seenAll ∈ lw_tbl := List.mem_of_getElem? (i := 1353) (by decide +kernel)
set_option maxRecDepth 100000 in
theorem m_1354 : Cond.instanceMethod yX10_seenAll ∈ lw_tbl := List.mem_of_getElem? (i := 1354) (by decide +kernel)
set_option maxRecDepth 100000 in
theorem m_1355 : Cond.selects RX10 yX10_seenAll yX10_seenAll ∈ lw_tbl := List.mem_of_getElem? (i := 1355) (by decide +kernel)
set_option maxRecDepth 100000 in
theorem m_1356 : Cond.code yX10_seenAll cX10_seenAll 4 (some FieldType.int) ∈ lw_tbl := List.mem_of_getElem? (i := 1356) (by rfl)
set_option maxRecDepth 100000 in
theorem m_1357 : Cond.methodLink RL 156 yX10_judge ∈ lw_tbl := List.mem_of_getElem? (i := 1357) (by decide +kernel)
set_option maxRecDepth 100000 in
theorem m_1358 : Cond.instanceMethod yX10_judge ∈ lw_tbl := List.mem_of_getElem? (i := 1358) (by decide +kernel)
set_option maxRecDepth 100000 in
theorem m_1359 : Cond.selects RX10 yX10_judge yX10_judge ∈ lw_tbl := List.mem_of_getElem? (i := 1359) (by decide +kernel)
set_option maxRecDepth 100000 in
theorem m_1360 : Cond.code yX10_judge cX10_judge 4 (some FieldType.int) ∈ lw_tbl := List.mem_of_getElem? (i := 1360) (by rfl)
set_option maxRecDepth 100000 in
theorem m_1361 : Cond.methodLink RL 161 yX10_image ∈ lw_tbl := List.mem_of_getElem? (i := 1361) (by decide +kernel)
set_option maxRecDepth 100000 in
theorem m_1362 : Cond.instanceMethod yX10_image ∈ lw_tbl := List.mem_of_getElem? (i := 1362) (by decide +kernel)
set_option maxRecDepth 100000 in
theorem m_1363 : Cond.selects RX10 yX10_image yX10_image ∈ lw_tbl := List.mem_of_getElem? (i := 1363) (by decide +kernel)
set_option maxRecDepth 100000 in
theorem m_1364 : Cond.code yX10_image cX10_image 1 (some FieldType.int) ∈ lw_tbl := List.mem_of_getElem? (i := 1364) (by rfl)
set_option maxRecDepth 100000 in
theorem m_1365 : Cond.methodLink RL 165 yX10_restore ∈ lw_tbl := List.mem_of_getElem? (i := 1365) (by decide +kernel)
set_option maxRecDepth 100000 in
theorem m_1366 : Cond.instanceMethod yX10_restore ∈ lw_tbl := List.mem_of_getElem? (i := 1366) (by decide +kernel)
set_option maxRecDepth 100000 in
theorem m_1367 : Cond.selects RX10 yX10_restore yX10_restore ∈ lw_tbl := List.mem_of_getElem? (i := 1367) (by decide +kernel)
set_option maxRecDepth 100000 in
theorem m_1368 : Cond.code yX10_restore cX10_restore 1 (some FieldType.int) ∈ lw_tbl := List.mem_of_getElem? (i := 1368) (by rfl)
set_option maxRecDepth 100000 in
theorem m_1369 : Cond.methodLink RL 169 yX10_tell ∈ lw_tbl := List.mem_of_getElem? (i := 1369) (by decide +kernel)
set_option maxRecDepth 100000 in
theorem m_1370 : Cond.instanceMethod yX10_tell ∈ lw_tbl := List.mem_of_getElem? (i := 1370) (by decide +kernel)
set_option maxRecDepth 100000 in
theorem m_1371 : Cond.selects RX10 yX10_tell yX10_tell ∈ lw_tbl := List.mem_of_getElem? (i := 1371) (by decide +kernel)
set_option maxRecDepth 100000 in
theorem m_1372 : Cond.code yX10_tell cX10_tell 2 (some FieldType.int) ∈ lw_tbl := List.mem_of_getElem? (i := 1372) (by rfl)
set_option maxRecDepth 100000 in
theorem m_1373 : Cond.methodLink RL 173 yX10_check ∈ lw_tbl := List.mem_of_getElem? (i := 1373) (by decide +kernel)
set_option maxRecDepth 100000 in
theorem m_1374 : Cond.instanceMethod yX10_check ∈ lw_tbl := List.mem_of_getElem? (i := 1374) (by decide +kernel)
set_option maxRecDepth 100000 in
theorem m_1375 : Cond.selects RX10 yX10_check yX10_check ∈ lw_tbl := List.mem_of_getElem? (i := 1375) (by decide +kernel)
set_option maxRecDepth 100000 in
theorem m_1376 : Cond.code yX10_check cX10_check 3 (some FieldType.int) ∈ lw_tbl := List.mem_of_getElem? (i := 1376) (by rfl)
set_option maxRecDepth 100000 in
theorem m_1377 : Cond.methodLink RL 177 yX10_count ∈ lw_tbl := List.mem_of_getElem? (i := 1377) (by decide +kernel)
set_option maxRecDepth 100000 in
theorem m_1378 : Cond.instanceMethod yX10_count ∈ lw_tbl := List.mem_of_getElem? (i := 1378) (by decide +kernel)
set_option maxRecDepth 100000 in
theorem m_1379 : Cond.selects RX10 yX10_count yX10_count ∈ lw_tbl := List.mem_of_getElem? (i := 1379) (by decide +kernel)
set_option maxRecDepth 100000 in
theorem m_1380 : Cond.code yX10_count cX10_count 2 (some FieldType.int) ∈ lw_tbl := List.mem_of_getElem? (i := 1380) (by rfl)
set_option maxRecDepth 100000 in
theorem m_1381 : Cond.methodLink RL 181 yX10_told ∈ lw_tbl := List.mem_of_getElem? (i := 1381) (by decide +kernel)
set_option maxRecDepth 100000 in
theorem m_1382 : Cond.instanceMethod yX10_told ∈ lw_tbl := List.mem_of_getElem? (i := 1382) (by decide +kernel)
set_option maxRecDepth 100000 in
theorem m_1383 : Cond.selects RX10 yX10_told yX10_told ∈ lw_tbl := List.mem_of_getElem? (i := 1383) (by decide +kernel)
set_option maxRecDepth 100000 in
theorem m_1384 : Cond.code yX10_told cX10_told 2 (some FieldType.int) ∈ lw_tbl := List.mem_of_getElem? (i := 1384) (by rfl)
set_option maxRecDepth 100000 in
theorem m_1385 : Cond.constantLong RL 60 4294967295 ∈ lw_tbl := List.mem_of_getElem? (i := 1385) (by decide +kernel)
set_option maxRecDepth 100000 in
theorem m_1386 : Cond.fieldLink RJ0 15 "java/lang/String" "coder" "B" ∈ lw_tbl := List.mem_of_getElem? (i := 1386) (by decide +kernel)
set_option maxRecDepth 100000 in
theorem m_1387 : Cond.fieldLink RJ0 9 "java/lang/String" "value" "[B" ∈ lw_tbl := List.mem_of_getElem? (i := 1387) (by decide +kernel)
end
