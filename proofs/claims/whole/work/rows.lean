section
-- ===== PART A: goes FIRST, ahead of the names: the tables' words, and 'selects' of the private methods out of them =====
/-- a private method of a class that the tables say can be made, by its rows of tables_1 -/
def lw_okq (q : MethodName × Nat) : Prop := (q.1.cls ≠ "java/lang/invoke/MethodHandle" ∧ q.1.cls ≠ "java/lang/invoke/VarHandle") ∧ Cond.instantiable q.1.cls q.2 ∈ tables_1 ∧ Cond.privateMethod q.1 ∈ tables_1 ∧ Cond.instanceMethod q.1 ∈ tables_1
theorem lw_p0 : lw_okq (⟨"AssemblyPlanner", "productIsTold", "()V"⟩, 4) := ⟨⟨by decide +kernel, by decide +kernel⟩, List.mem_of_getElem? (i := 16) (by decide +kernel), List.mem_of_getElem? (i := 155) (by decide +kernel), List.mem_of_getElem? (i := 156) (by decide +kernel)⟩
theorem lw_p1 : lw_okq (⟨"AssemblyPlanner", "needTool", "(I)V"⟩, 4) := ⟨⟨by decide +kernel, by decide +kernel⟩, List.mem_of_getElem? (i := 16) (by decide +kernel), List.mem_of_getElem? (i := 216) (by decide +kernel), List.mem_of_getElem? (i := 217) (by decide +kernel)⟩
theorem lw_p2 : lw_okq (⟨"java/lang/Throwable", "fillInStackTrace", "(I)Ljava/lang/Throwable;"⟩, 6) := ⟨⟨by decide +kernel, by decide +kernel⟩, List.mem_of_getElem? (i := 258) (by decide +kernel), List.mem_of_getElem? (i := 256) (by decide +kernel), List.mem_of_getElem? (i := 257) (by decide +kernel)⟩
theorem lw_p3 : lw_okq (⟨"AssemblyPlanner", "needPart", "(I)V"⟩, 4) := ⟨⟨by decide +kernel, by decide +kernel⟩, List.mem_of_getElem? (i := 16) (by decide +kernel), List.mem_of_getElem? (i := 316) (by decide +kernel), List.mem_of_getElem? (i := 317) (by decide +kernel)⟩
theorem lw_p4 : lw_okq (⟨"AssemblyPlanner", "needDifferent", "(II)V"⟩, 4) := ⟨⟨by decide +kernel, by decide +kernel⟩, List.mem_of_getElem? (i := 16) (by decide +kernel), List.mem_of_getElem? (i := 347) (by decide +kernel), List.mem_of_getElem? (i := 348) (by decide +kernel)⟩
theorem lw_p5 : lw_okq (⟨"AssemblyPlanner", "needDirection", "(I)V"⟩, 4) := ⟨⟨by decide +kernel, by decide +kernel⟩, List.mem_of_getElem? (i := 16) (by decide +kernel), List.mem_of_getElem? (i := 372) (by decide +kernel), List.mem_of_getElem? (i := 373) (by decide +kernel)⟩
theorem lw_p6 : lw_okq (⟨"AssemblyPlanner", "needSet", "(I)V"⟩, 4) := ⟨⟨by decide +kernel, by decide +kernel⟩, List.mem_of_getElem? (i := 16) (by decide +kernel), List.mem_of_getElem? (i := 402) (by decide +kernel), List.mem_of_getElem? (i := 403) (by decide +kernel)⟩
theorem lw_p7 : lw_okq (⟨"AssemblyPlanner", "needSetWith", "(II)V"⟩, 4) := ⟨⟨by decide +kernel, by decide +kernel⟩, List.mem_of_getElem? (i := 16) (by decide +kernel), List.mem_of_getElem? (i := 436) (by decide +kernel), List.mem_of_getElem? (i := 437) (by decide +kernel)⟩
theorem lw_p8 : lw_okq (⟨"AssemblyPlanner$Parting", "find", "()V"⟩, 6) := ⟨⟨by decide +kernel, by decide +kernel⟩, List.mem_of_getElem? (i := 50) (by decide +kernel), List.mem_of_getElem? (i := 510) (by decide +kernel), List.mem_of_getElem? (i := 511) (by decide +kernel)⟩
theorem lw_p9 : lw_okq (⟨"AssemblyPlanner$Parting", "findFor", "(I)V"⟩, 6) := ⟨⟨by decide +kernel, by decide +kernel⟩, List.mem_of_getElem? (i := 50) (by decide +kernel), List.mem_of_getElem? (i := 516) (by decide +kernel), List.mem_of_getElem? (i := 517) (by decide +kernel)⟩
theorem lw_p10 : lw_okq (⟨"AssemblyPlanner$Parting", "isSplit", "(II)Z"⟩, 6) := ⟨⟨by decide +kernel, by decide +kernel⟩, List.mem_of_getElem? (i := 50) (by decide +kernel), List.mem_of_getElem? (i := 520) (by decide +kernel), List.mem_of_getElem? (i := 521) (by decide +kernel)⟩
theorem lw_p11 : lw_okq (⟨"AssemblyPlanner$Product", "hindered", "(III)Z"⟩, 6) := ⟨⟨by decide +kernel, by decide +kernel⟩, List.mem_of_getElem? (i := 24) (by decide +kernel), List.mem_of_getElem? (i := 528) (by decide +kernel), List.mem_of_getElem? (i := 529) (by decide +kernel)⟩
theorem lw_p12 : lw_okq (⟨"AssemblyPlanner$Parting", "addSplit", "(III)V"⟩, 6) := ⟨⟨by decide +kernel, by decide +kernel⟩, List.mem_of_getElem? (i := 50) (by decide +kernel), List.mem_of_getElem? (i := 532) (by decide +kernel), List.mem_of_getElem? (i := 533) (by decide +kernel)⟩
theorem lw_p13 : lw_okq (⟨"AssemblyPlanner", "needParts", "()V"⟩, 4) := ⟨⟨by decide +kernel, by decide +kernel⟩, List.mem_of_getElem? (i := 16) (by decide +kernel), List.mem_of_getElem? (i := 549) (by decide +kernel), List.mem_of_getElem? (i := 550) (by decide +kernel)⟩
theorem lw_p14 : lw_okq (⟨"AssemblyPlanner$Ordering", "find", "()V"⟩, 8) := ⟨⟨by decide +kernel, by decide +kernel⟩, List.mem_of_getElem? (i := 76) (by decide +kernel), List.mem_of_getElem? (i := 580) (by decide +kernel), List.mem_of_getElem? (i := 581) (by decide +kernel)⟩
theorem lw_p15 : lw_okq (⟨"AssemblyPlanner$Ordering", "nextsOf", "(I)I"⟩, 8) := ⟨⟨by decide +kernel, by decide +kernel⟩, List.mem_of_getElem? (i := 76) (by decide +kernel), List.mem_of_getElem? (i := 586) (by decide +kernel), List.mem_of_getElem? (i := 587) (by decide +kernel)⟩
def lw_privs_1 : List (MethodName × Nat) := [(⟨"AssemblyPlanner", "productIsTold", "()V"⟩, 4), (⟨"AssemblyPlanner", "needTool", "(I)V"⟩, 4), (⟨"java/lang/Throwable", "fillInStackTrace", "(I)Ljava/lang/Throwable;"⟩, 6), (⟨"AssemblyPlanner", "needPart", "(I)V"⟩, 4), (⟨"AssemblyPlanner", "needDifferent", "(II)V"⟩, 4), (⟨"AssemblyPlanner", "needDirection", "(I)V"⟩, 4), (⟨"AssemblyPlanner", "needSet", "(I)V"⟩, 4), (⟨"AssemblyPlanner", "needSetWith", "(II)V"⟩, 4), (⟨"AssemblyPlanner$Parting", "find", "()V"⟩, 6), (⟨"AssemblyPlanner$Parting", "findFor", "(I)V"⟩, 6), (⟨"AssemblyPlanner$Parting", "isSplit", "(II)Z"⟩, 6), (⟨"AssemblyPlanner$Product", "hindered", "(III)Z"⟩, 6), (⟨"AssemblyPlanner$Parting", "addSplit", "(III)V"⟩, 6), (⟨"AssemblyPlanner", "needParts", "()V"⟩, 4), (⟨"AssemblyPlanner$Ordering", "find", "()V"⟩, 8), (⟨"AssemblyPlanner$Ordering", "nextsOf", "(I)I"⟩, 8)]
theorem lw_r1 : ∀ q ∈ lw_privs_1, lw_okq q := List.forall_mem_cons.mpr ⟨lw_p0, List.forall_mem_cons.mpr ⟨lw_p1, List.forall_mem_cons.mpr ⟨lw_p2, List.forall_mem_cons.mpr ⟨lw_p3, List.forall_mem_cons.mpr ⟨lw_p4, List.forall_mem_cons.mpr ⟨lw_p5, List.forall_mem_cons.mpr ⟨lw_p6, List.forall_mem_cons.mpr ⟨lw_p7, List.forall_mem_cons.mpr ⟨lw_p8, List.forall_mem_cons.mpr ⟨lw_p9, List.forall_mem_cons.mpr ⟨lw_p10, List.forall_mem_cons.mpr ⟨lw_p11, List.forall_mem_cons.mpr ⟨lw_p12, List.forall_mem_cons.mpr ⟨lw_p13, List.forall_mem_cons.mpr ⟨lw_p14, List.forall_mem_cons.mpr ⟨lw_p15, fun _ h => absurd h List.not_mem_nil⟩⟩⟩⟩⟩⟩⟩⟩⟩⟩⟩⟩⟩⟩⟩⟩
theorem lw_p16 : lw_okq (⟨"AssemblyPlanner$Ordering", "ordersFrom", "(I)I"⟩, 8) := ⟨⟨by decide +kernel, by decide +kernel⟩, List.mem_of_getElem? (i := 76) (by decide +kernel), List.mem_of_getElem? (i := 592) (by decide +kernel), List.mem_of_getElem? (i := 593) (by decide +kernel)⟩
theorem lw_p17 : lw_okq (⟨"AssemblyPlanner$Ordering", "fewestFrom", "(II)I"⟩, 8) := ⟨⟨by decide +kernel, by decide +kernel⟩, List.mem_of_getElem? (i := 76) (by decide +kernel), List.mem_of_getElem? (i := 596) (by decide +kernel), List.mem_of_getElem? (i := 597) (by decide +kernel)⟩
theorem lw_p18 : lw_okq (⟨"AssemblyPlanner$Ordering", "changesWith", "(III)I"⟩, 8) := ⟨⟨by decide +kernel, by decide +kernel⟩, List.mem_of_getElem? (i := 76) (by decide +kernel), List.mem_of_getElem? (i := 600) (by decide +kernel), List.mem_of_getElem? (i := 601) (by decide +kernel)⟩
theorem lw_p19 : lw_okq (⟨"AssemblyPlanner$Ordering", "findBest", "()V"⟩, 8) := ⟨⟨by decide +kernel, by decide +kernel⟩, List.mem_of_getElem? (i := 76) (by decide +kernel), List.mem_of_getElem? (i := 612) (by decide +kernel), List.mem_of_getElem? (i := 613) (by decide +kernel)⟩
theorem lw_p20 : lw_okq (⟨"AssemblyPlanner$Ordering", "leastNext", "(III)I"⟩, 8) := ⟨⟨by decide +kernel, by decide +kernel⟩, List.mem_of_getElem? (i := 76) (by decide +kernel), List.mem_of_getElem? (i := 616) (by decide +kernel), List.mem_of_getElem? (i := 617) (by decide +kernel)⟩
theorem lw_p21 : lw_okq (⟨"AssemblyPlanner$Cell", "mount", "(I)V"⟩, 8) := ⟨⟨by decide +kernel, by decide +kernel⟩, List.mem_of_getElem? (i := 107) (by decide +kernel), List.mem_of_getElem? (i := 703) (by decide +kernel), List.mem_of_getElem? (i := 704) (by decide +kernel)⟩
theorem lw_p22 : lw_okq (⟨"AssemblyPlanner$Cell", "clearJam", "(I)V"⟩, 8) := ⟨⟨by decide +kernel, by decide +kernel⟩, List.mem_of_getElem? (i := 107) (by decide +kernel), List.mem_of_getElem? (i := 711) (by decide +kernel), List.mem_of_getElem? (i := 712) (by decide +kernel)⟩
theorem lw_p23 : lw_okq (⟨"AssemblyPlanner$Cell", "putIn", "(I)V"⟩, 8) := ⟨⟨by decide +kernel, by decide +kernel⟩, List.mem_of_getElem? (i := 107) (by decide +kernel), List.mem_of_getElem? (i := 715) (by decide +kernel), List.mem_of_getElem? (i := 716) (by decide +kernel)⟩
theorem lw_p24 : lw_okq (⟨"AssemblyPlannerModel", "holds", "(I)Z"⟩, 19) := ⟨⟨by decide +kernel, by decide +kernel⟩, List.mem_of_getElem? (i := 744) (by decide +kernel), List.mem_of_getElem? (i := 819) (by decide +kernel), List.mem_of_getElem? (i := 820) (by decide +kernel)⟩
theorem lw_p25 : lw_okq (⟨"AssemblyPlannerModel", "isPart", "(I)Z"⟩, 19) := ⟨⟨by decide +kernel, by decide +kernel⟩, List.mem_of_getElem? (i := 744) (by decide +kernel), List.mem_of_getElem? (i := 827) (by decide +kernel), List.mem_of_getElem? (i := 828) (by decide +kernel)⟩
theorem lw_p26 : lw_okq (⟨"AssemblyPlannerModel", "isSet", "(I)Z"⟩, 19) := ⟨⟨by decide +kernel, by decide +kernel⟩, List.mem_of_getElem? (i := 744) (by decide +kernel), List.mem_of_getElem? (i := 861) (by decide +kernel), List.mem_of_getElem? (i := 862) (by decide +kernel)⟩
theorem lw_p27 : lw_okq (⟨"AssemblyPlannerModel", "whole", "()I"⟩, 19) := ⟨⟨by decide +kernel, by decide +kernel⟩, List.mem_of_getElem? (i := 744) (by decide +kernel), List.mem_of_getElem? (i := 865) (by decide +kernel), List.mem_of_getElem? (i := 866) (by decide +kernel)⟩
theorem lw_p28 : lw_okq (⟨"AssemblyPlannerModel", "hangsTogether", "(I)Z"⟩, 19) := ⟨⟨by decide +kernel, by decide +kernel⟩, List.mem_of_getElem? (i := 744) (by decide +kernel), List.mem_of_getElem? (i := 869) (by decide +kernel), List.mem_of_getElem? (i := 870) (by decide +kernel)⟩
theorem lw_p29 : lw_okq (⟨"AssemblyPlannerModel", "reached", "(II)I"⟩, 19) := ⟨⟨by decide +kernel, by decide +kernel⟩, List.mem_of_getElem? (i := 744) (by decide +kernel), List.mem_of_getElem? (i := 873) (by decide +kernel), List.mem_of_getElem? (i := 874) (by decide +kernel)⟩
theorem lw_p30 : lw_okq (⟨"AssemblyPlannerModel", "isHeld", "(I)Z"⟩, 19) := ⟨⟨by decide +kernel, by decide +kernel⟩, List.mem_of_getElem? (i := 744) (by decide +kernel), List.mem_of_getElem? (i := 881) (by decide +kernel), List.mem_of_getElem? (i := 882) (by decide +kernel)⟩
theorem lw_p31 : lw_okq (⟨"AssemblyPlannerModel", "isOf", "(II)Z"⟩, 19) := ⟨⟨by decide +kernel, by decide +kernel⟩, List.mem_of_getElem? (i := 744) (by decide +kernel), List.mem_of_getElem? (i := 889) (by decide +kernel), List.mem_of_getElem? (i := 890) (by decide +kernel)⟩
def lw_privs_2 : List (MethodName × Nat) := [(⟨"AssemblyPlanner$Ordering", "ordersFrom", "(I)I"⟩, 8), (⟨"AssemblyPlanner$Ordering", "fewestFrom", "(II)I"⟩, 8), (⟨"AssemblyPlanner$Ordering", "changesWith", "(III)I"⟩, 8), (⟨"AssemblyPlanner$Ordering", "findBest", "()V"⟩, 8), (⟨"AssemblyPlanner$Ordering", "leastNext", "(III)I"⟩, 8), (⟨"AssemblyPlanner$Cell", "mount", "(I)V"⟩, 8), (⟨"AssemblyPlanner$Cell", "clearJam", "(I)V"⟩, 8), (⟨"AssemblyPlanner$Cell", "putIn", "(I)V"⟩, 8), (⟨"AssemblyPlannerModel", "holds", "(I)Z"⟩, 19), (⟨"AssemblyPlannerModel", "isPart", "(I)Z"⟩, 19), (⟨"AssemblyPlannerModel", "isSet", "(I)Z"⟩, 19), (⟨"AssemblyPlannerModel", "whole", "()I"⟩, 19), (⟨"AssemblyPlannerModel", "hangsTogether", "(I)Z"⟩, 19), (⟨"AssemblyPlannerModel", "reached", "(II)I"⟩, 19), (⟨"AssemblyPlannerModel", "isHeld", "(I)Z"⟩, 19), (⟨"AssemblyPlannerModel", "isOf", "(II)Z"⟩, 19)]
theorem lw_r2 : ∀ q ∈ lw_privs_2, lw_okq q := List.forall_mem_cons.mpr ⟨lw_p16, List.forall_mem_cons.mpr ⟨lw_p17, List.forall_mem_cons.mpr ⟨lw_p18, List.forall_mem_cons.mpr ⟨lw_p19, List.forall_mem_cons.mpr ⟨lw_p20, List.forall_mem_cons.mpr ⟨lw_p21, List.forall_mem_cons.mpr ⟨lw_p22, List.forall_mem_cons.mpr ⟨lw_p23, List.forall_mem_cons.mpr ⟨lw_p24, List.forall_mem_cons.mpr ⟨lw_p25, List.forall_mem_cons.mpr ⟨lw_p26, List.forall_mem_cons.mpr ⟨lw_p27, List.forall_mem_cons.mpr ⟨lw_p28, List.forall_mem_cons.mpr ⟨lw_p29, List.forall_mem_cons.mpr ⟨lw_p30, List.forall_mem_cons.mpr ⟨lw_p31, fun _ h => absurd h List.not_mem_nil⟩⟩⟩⟩⟩⟩⟩⟩⟩⟩⟩⟩⟩⟩⟩⟩
theorem lw_p32 : lw_okq (⟨"AssemblyPlannerModel", "freeOf", "(II)I"⟩, 19) := ⟨⟨by decide +kernel, by decide +kernel⟩, List.mem_of_getElem? (i := 744) (by decide +kernel), List.mem_of_getElem? (i := 893) (by decide +kernel), List.mem_of_getElem? (i := 894) (by decide +kernel)⟩
theorem lw_p33 : lw_okq (⟨"AssemblyPlannerModel", "isSound", "(I)Z"⟩, 19) := ⟨⟨by decide +kernel, by decide +kernel⟩, List.mem_of_getElem? (i := 744) (by decide +kernel), List.mem_of_getElem? (i := 901) (by decide +kernel), List.mem_of_getElem? (i := 902) (by decide +kernel)⟩
theorem lw_p34 : lw_okq (⟨"AssemblyPlannerModel", "moving", "(II)I"⟩, 19) := ⟨⟨by decide +kernel, by decide +kernel⟩, List.mem_of_getElem? (i := 744) (by decide +kernel), List.mem_of_getElem? (i := 909) (by decide +kernel), List.mem_of_getElem? (i := 910) (by decide +kernel)⟩
theorem lw_p35 : lw_okq (⟨"AssemblyPlannerModel", "bound", "(II)I"⟩, 19) := ⟨⟨by decide +kernel, by decide +kernel⟩, List.mem_of_getElem? (i := 744) (by decide +kernel), List.mem_of_getElem? (i := 917) (by decide +kernel), List.mem_of_getElem? (i := 918) (by decide +kernel)⟩
theorem lw_p36 : lw_okq (⟨"AssemblyPlannerModel", "isSplit", "(II)Z"⟩, 19) := ⟨⟨by decide +kernel, by decide +kernel⟩, List.mem_of_getElem? (i := 744) (by decide +kernel), List.mem_of_getElem? (i := 929) (by decide +kernel), List.mem_of_getElem? (i := 930) (by decide +kernel)⟩
theorem lw_p37 : lw_okq (⟨"AssemblyPlannerModel", "canPart", "(II)Z"⟩, 19) := ⟨⟨by decide +kernel, by decide +kernel⟩, List.mem_of_getElem? (i := 744) (by decide +kernel), List.mem_of_getElem? (i := 933) (by decide +kernel), List.mem_of_getElem? (i := 934) (by decide +kernel)⟩
theorem lw_p38 : lw_okq (⟨"AssemblyPlannerModel", "comesApart", "()V"⟩, 19) := ⟨⟨by decide +kernel, by decide +kernel⟩, List.mem_of_getElem? (i := 744) (by decide +kernel), List.mem_of_getElem? (i := 941) (by decide +kernel), List.mem_of_getElem? (i := 942) (by decide +kernel)⟩
theorem lw_p39 : lw_okq (⟨"AssemblyPlannerModel", "canAdd", "(II)Z"⟩, 19) := ⟨⟨by decide +kernel, by decide +kernel⟩, List.mem_of_getElem? (i := 744) (by decide +kernel), List.mem_of_getElem? (i := 953) (by decide +kernel), List.mem_of_getElem? (i := 954) (by decide +kernel)⟩
theorem lw_p40 : lw_okq (⟨"AssemblyPlannerModel", "best", "()I"⟩, 19) := ⟨⟨by decide +kernel, by decide +kernel⟩, List.mem_of_getElem? (i := 744) (by decide +kernel), List.mem_of_getElem? (i := 961) (by decide +kernel), List.mem_of_getElem? (i := 962) (by decide +kernel)⟩
theorem lw_p41 : lw_okq (⟨"AssemblyPlannerModel", "laysChanges", "()V"⟩, 19) := ⟨⟨by decide +kernel, by decide +kernel⟩, List.mem_of_getElem? (i := 744) (by decide +kernel), List.mem_of_getElem? (i := 965) (by decide +kernel), List.mem_of_getElem? (i := 966) (by decide +kernel)⟩
theorem lw_p42 : lw_okq (⟨"AssemblyPlannerModel", "isPassed", "(I)Z"⟩, 19) := ⟨⟨by decide +kernel, by decide +kernel⟩, List.mem_of_getElem? (i := 744) (by decide +kernel), List.mem_of_getElem? (i := 989) (by decide +kernel), List.mem_of_getElem? (i := 990) (by decide +kernel)⟩
def lw_privs_3 : List (MethodName × Nat) := [(⟨"AssemblyPlannerModel", "freeOf", "(II)I"⟩, 19), (⟨"AssemblyPlannerModel", "isSound", "(I)Z"⟩, 19), (⟨"AssemblyPlannerModel", "moving", "(II)I"⟩, 19), (⟨"AssemblyPlannerModel", "bound", "(II)I"⟩, 19), (⟨"AssemblyPlannerModel", "isSplit", "(II)Z"⟩, 19), (⟨"AssemblyPlannerModel", "canPart", "(II)Z"⟩, 19), (⟨"AssemblyPlannerModel", "comesApart", "()V"⟩, 19), (⟨"AssemblyPlannerModel", "canAdd", "(II)Z"⟩, 19), (⟨"AssemblyPlannerModel", "best", "()I"⟩, 19), (⟨"AssemblyPlannerModel", "laysChanges", "()V"⟩, 19), (⟨"AssemblyPlannerModel", "isPassed", "(I)Z"⟩, 19)]
theorem lw_r3 : ∀ q ∈ lw_privs_3, lw_okq q := List.forall_mem_cons.mpr ⟨lw_p32, List.forall_mem_cons.mpr ⟨lw_p33, List.forall_mem_cons.mpr ⟨lw_p34, List.forall_mem_cons.mpr ⟨lw_p35, List.forall_mem_cons.mpr ⟨lw_p36, List.forall_mem_cons.mpr ⟨lw_p37, List.forall_mem_cons.mpr ⟨lw_p38, List.forall_mem_cons.mpr ⟨lw_p39, List.forall_mem_cons.mpr ⟨lw_p40, List.forall_mem_cons.mpr ⟨lw_p41, List.forall_mem_cons.mpr ⟨lw_p42, fun _ h => absurd h List.not_mem_nil⟩⟩⟩⟩⟩⟩⟩⟩⟩⟩⟩
def lw_privs : List (MethodName × Nat) := lw_privs_1 ++ (lw_privs_2 ++ (lw_privs_3))
def lw_tbl : List Cond := k2_sels lw_privs ++ tables_1
theorem lw_privs_ok : ∀ q ∈ lw_privs, lw_okq q := by
  show ∀ q ∈ lw_privs_1 ++ (lw_privs_2 ++ (lw_privs_3)), lw_okq q
  exact List.forall_mem_append.mpr ⟨lw_r1, List.forall_mem_append.mpr ⟨lw_r2, lw_r3⟩⟩
end
section
/-! ===== BEGIN words of one list among another's, by their places ===== -/
theorem goodIn_r {big : List Cond} (ws : List Cond) (ps : List Nat) (hp : ws = ps.filterMap (fun i => big[i]?)) (h : ws.all goodWord = true) : GoodIn big ws := by
  intro w hw
  have h1 := List.all_eq_true.mp h w hw
  rw [hp] at hw
  obtain ⟨i, -, hi⟩ := List.mem_filterMap.mp hw
  have hm : w ∈ big := by first | exact List.mem_of_getElem? hi | exact List.getElem?_mem hi
  exact ⟨hm, good_of_word h1⟩
theorem goodIn_app {big a b : List Cond} (ha : GoodIn big a) (hb : GoodIn big b) : GoodIn big (a ++ b) := fun w h => (List.mem_append.mp h).elim (ha w) (hb w)
theorem goodIn_ca {big a b : List Cond} {c : Cond} (ha : GoodIn big (c :: a)) (hb : GoodIn big b) : GoodIn big (c :: (a ++ b)) := fun w h => (List.mem_cons.mp h).elim (fun e => ha w (List.mem_cons.mpr (Or.inl e))) (fun h => (List.mem_append.mp h).elim (fun h => ha w (List.mem_cons.mpr (Or.inr h))) (hb w))
theorem goodIn_sub {big ws : List Cond} (hm : ∀ w ∈ ws, w ∈ big) (h : ws.all goodWord = true) : GoodIn big ws := fun w hw => ⟨hm w hw, good_of_word (List.all_eq_true.mp h w hw)⟩
/-! ===== END ===== -/

/-! ===== BEGIN exceptions that leave a method, and their catching by the caller (launches without stack traces) ===== -/
section VXA
/-! The laws vx_back, vx_callV, vx_callS, vx_callSW, vx_throw0, vx_throwS follow proofs of the library, with one case more: JvmDerived/Free/Laws.lean (Back.of_free), Shelf42/LK1.lean (callV, callS), Shelf/KitTraced.lean (throwNew0V, throwNewS). -/
/-- where a method has thrown q: the class by its name, the cell, what was written, the world -/
def vx_T (XC : String → State → State → Prop) (st : State) (q : Addr) (t : State) (mc ms : Nat) (free : Addr → Prop) : Prop :=
  ∃ (E : String) (ce : Cell) (L : List Loc), XC E st t ∧ t.heap[q]? = some ce ∧ ce.vm = .none ∧ st.vm.findClass E = some ce.cls ∧ st.WarmedH t.vm ∧ st.sameButNew ({ t with vm := st.vm } : State) L mc ms ∧ ∀ z ∈ L, free z.base
def vx_Q (Qc : Array Value → State → Outcome → State → Prop) (XC : String → State → State → Prop) (mc ms : Nat) (free : Addr → Prop) : Array Value → State → Outcome → State → Prop := fun a st o t =>
  (Qc a st o t ∧ ∃ L, FrameEnd st o t L mc ms ∧ ∀ q ∈ L, free q.base) ∨ ∃ q, o = .threw q ∧ vx_T XC st q t mc ms free
/-- a callee that returns or throws -/
def vx_Met (l : Launch) (y : MethodName) (ws : List Cond) (rm : Room) (Pc : Array Value → State → Prop) (Qc : Array Value → State → Outcome → State → Prop) (XC : String → State → State → Prop) (mc ms : Nat) (free : Addr → Prop) : Prop :=
  MetFree l y (headSpec ws rm) Pc (fun _ _ _ _ _ => True) (vx_Q Qc XC mc ms free)
def vx_Post (XC : String → State → State → Prop) (mc ms : Nat) (free : Addr → Prop) : Pt → Array Value → Addr → Pt → Prop := fun A a q B =>
  ∃ (g : JFrame) (mk : MethodId) (t : State) (L : List Loc) (E : String) (ce : Cell), B.U.heap = t.heap ∧ B.U.vm = t.vm ∧ XC E (A.U.calling g mk a) t ∧ t.heap[q]? = some ce ∧ ce.vm = .none ∧ A.U.vm.findClass E = some ce.cls ∧ B.locs = A.locs ++ L ∧ (∀ z ∈ L, free z.base) ∧ B.cells = A.cells + mc ∧ B.slots = A.slots + ms
def vx_Back (l : Launch) (R : Room) (p : Program) (e : Env) (below : List Frame) (s : State) (sargs : Array Value) (y : MethodName) (len W9 : Nat)
    (Pre : Pt → Array Value → Prop) (Post : Pt → Array Value → Option Value → Pt → Prop) (PostX : Pt → Array Value → Addr → Pt → Prop) : Prop :=
  ∀ (m : MethodId) (meth : Method) (c : Code) (A : Pt) (g : JFrame) (ig : Instr) (mk : MethodId) (a : Array Value),
    Stand p l e R s m sargs below meth c A.U A.locs A.cells A.slots → g.method = m → g.locals.size = c.maxLocals → decode c.code g.pc = .ok (ig, len) →
    2 * g.monitorRoom + (g.stack.map fun v => v.category).sum ≤ W9 → A.U.methodNamed? y = some mk → Pre A a →
    (∃ (v : Option Value) (B : Pt), Stand p l e R s m sargs below meth c B.U B.locs B.cells B.slots ∧ Post A a v B ∧
      Steps p.tables e below (doInvoke e (A.U.setTop g) [] mk a).1 (B.U.setTop { g with pc := g.pc + len, stack := v.toList ++ g.stack })) ∨
    (∃ (q : Addr) (B : Pt), Stand p l e R s m sargs below meth c B.U B.locs B.cells B.slots ∧ PostX A a q B ∧
      Steps p.tables e below (doInvoke e (A.U.setTop g) [] mk a).1 ((B.U.setTop g).pushFrame (.throwing q)))
section Payer
variable {l : Launch} {R : Room} {p : Program} {e : Env} {below : List Frame} {s : State} {sargs : Array Value} {y : MethodName} {len W9 : Nat}
theorem vx_back {ws : List Cond} {rm : Room} {Pc : Array Value → State → Prop} {Qc : Array Value → State → Outcome → State → Prop} {XC : String → State → State → Prop} {mc ms : Nat} {free : Addr → Prop} {bytes : ByteArray} {maxL : Nat} {ret : Option FieldType}
    (hM : vx_Met l y ws rm Pc Qc XC mc ms free) (hblind : FrameBlind Pc) (hrc : rm.cells = mc) (hrs : rm.slots = ms)
    (hframes : rm.frames + 1 ≤ R.frames) (hlocals : W9 + (maxL + 11) + rm.locals ≤ R.locals)
    (hws : ∀ w ∈ ws, ∀ a' U, s.WarmedH U.vm → w.before a' U = true) (hcode : Cond.code y bytes maxL ret ∈ ws) (hinit : ∀ a' U, s.WarmedH U.vm → (Cond.initialized y.cls).before a' U = true) :
    vx_Back l R p e below s sargs y len W9 (PreOf R mc ms Pc) (PostOf Qc mc ms free) (vx_Post XC mc ms free) := by
  intro m meth c A g ig mk a X hg hsize hdg hW hn hp
  have h1 : (headSpec ws rm).pre.before a A.U = true := atoms_intro fun w hw => hws w hw _ _ X.warmed
  have h2 : (Cond.code y bytes maxL ret).before a A.U = true := hws _ hcode _ _ X.warmed
  have h3 : (Cond.initialized y.cls).before a A.U = true := hinit _ _ X.warmed
  have h4 : A.cells + (headSpec ws rm).room.cells ≤ R.cells := by rw [show (headSpec ws rm).room.cells = mc from hrc]; exact hp.1
  have h5 : A.slots + (headSpec ws rm).room.slots ≤ R.slots := by rw [show (headSpec ws rm).room.slots = ms from hrs]; exact hp.2.1
  have hPc : Pc a (A.U.calling g mk a) := hblind _ _ _ _ hp.2.2
  obtain ⟨U, Ls, c0, s0⟩ := A
  dsimp only [Pt.U, Pt.locs, Pt.cells, Pt.slots] at h1 h2 h3 h4 h5 X hn hPc ⊢
  obtain ⟨methY, cY, hmY, hcY, -, hlY, -, -, -, -⟩ := Cond.code_spec hn h2
  obtain ⟨kY, hkY, -⟩ := className_of_methodNamed hn
  have hinitY : kY.init = .initialized := Cond.initialized_spec (findClass_of_methodNamed hn) hkY h3
  have h : At U g.method c below := by rw [hg]; exact X.here
  have hlocals9 : W9 + (maxL + 11) + (headSpec ws rm).room.locals ≤ R.locals := hlocals
  have happ : (headSpec ws rm).appliesLoose y e.platform (U.calling g mk a) = true :=
    Spec.appliesLoose_calling (g := g) h hdg hn hkY hinitY
      (X.room_calling (g := g) (R' := (headSpec ws rm).room) hsize hmY hcY hframes (by rw [hlY]; omega) h4 h5) h1
  obtain ⟨mid, hmid⟩ := h.above
  have hfr : (U.setTop g).frames = (.java g :: mid) ++ below := by rw [State.frames_setTop' g h.top, hmid]; rfl
  obtain ⟨o, s₂, hsteps, -, hend, hq⟩ := Steps.callFree hM p X.admits X.cas X.clock (acts := []) hfr happ hPc trivial
  have hq' : vx_Q Qc XC mc ms free a (U.calling g mk a) o s₂ := hq
  rw [State.frames_setTop' g h.top] at hend
  obtain ⟨g₀, hg0⟩ := Option.isSome_iff_exists.mp h.top
  obtain ⟨r, hr⟩ := State.topJava?_eq_some.mp hg0
  have hr' : (({ U with heap := s₂.heap, slotsUsed := s₂.slotsUsed } : State).setVm s₂.vm).frames = .java g₀ :: r := hr
  rcases hq' with ⟨hqc, L, hfe, hL⟩ | ⟨q, rfl, E, ce, L, hx, hce, hcv, hcl, hW₂, hsm, hL⟩
  · obtain ⟨⟨v, rfl⟩, hW₂, e2, q2, q3, q4, q5, q6⟩ := id hfe
    have e3 : s₂ = ({ (U.calling g mk a).setFrames s₂.frames with heap := s₂.heap, slotsUsed := s₂.slotsUsed } : State).setVm s₂.vm := by
      have : s₂ = ({ s₂ with vm := (U.calling g mk a).vm } : State).setVm s₂.vm := rfl
      rw [e2] at this
      exact this
    obtain ⟨c₂, i₂, len₂, hc₂, hd₂, hf₂⟩ := hend
    have hW' : U.WarmedH s₂.vm := hW₂
    have hcc : c₂ = c := by
      have h1 : s₂.code? g.method = U.code? g.method := by
        rw [State.code?_eq, State.code?_eq, hW'.alike.method?]
      exact Option.some.inj (hc₂.symm.trans (h1.trans h.code))
    subst hcc
    have hlen : len₂ = len := by rw [hdg] at hd₂; cases hd₂; rfl
    subst hlen
    have hs₂ : s₂ = (({ U with heap := s₂.heap, slotsUsed := s₂.slotsUsed } : State).setVm s₂.vm).setTop { g with pc := g.pc + len₂, stack := v.toList ++ g.stack } := by
      refine e3.trans ?_
      rw [hf₂, State.calling_eq h.top, State.setFrames_setFrames, State.setTop_of_frames _ hr', hr]
      rfl
    have hsame : U.sameButNew ({ U with heap := s₂.heap, slotsUsed := s₂.slotsUsed } : State) L mc ms := by
      refine ⟨?_, q2, q3, q4, q5, q6⟩
      obtain ⟨t, ht, -⟩ := State.frames_cons hr
      show ({ U with heap := s₂.heap, slotsUsed := s₂.slotsUsed } : State) = { U.setFrames U.frames with heap := s₂.heap, slotsUsed := s₂.slotsUsed }
      rw [State.setFrames_self ht]
    subst hg
    refine Or.inl ⟨v, ⟨(({ U with heap := s₂.heap, slotsUsed := s₂.slotsUsed } : State).setVm s₂.vm), Ls ++ L, c0 + mc, s0 + ms⟩,
      ⟨X.admits, X.cas, X.clock, X.frames, X.room, X.hears, X.method, X.code, (X.here.setHeapUsed s₂.heap s₂.slotsUsed).setVm hW'.alike, X.tail, State.WarmedH.trans X.warmed hW', X.limits, X.bytes, X.same.trans (hsame.setVm s.vm)⟩,
      ⟨g, mk, s₂, L, rfl, rfl, hqc, rfl, hL, rfl, rfl⟩, ?_⟩
    show Steps p.tables e below _ ((({ U with heap := s₂.heap, slotsUsed := s₂.slotsUsed } : State).setVm s₂.vm).setTop { g with pc := g.pc + len₂, stack := v.toList ++ g.stack })
    rw [← hs₂]
    exact hsteps
  · obtain ⟨e2, q2, q3, q4, q5, q6⟩ := id hsm
    have e3 : s₂ = ({ (U.calling g mk a).setFrames s₂.frames with heap := s₂.heap, slotsUsed := s₂.slotsUsed } : State).setVm s₂.vm := by
      have : s₂ = ({ s₂ with vm := (U.calling g mk a).vm } : State).setVm s₂.vm := rfl
      rw [e2] at this
      exact this
    have hf₂ : s₂.frames = .throwing q :: .java g :: U.frames.tail := hend
    have hW' : U.WarmedH s₂.vm := hW₂
    have hs₂ : s₂ = ((({ U with heap := s₂.heap, slotsUsed := s₂.slotsUsed } : State).setVm s₂.vm).setTop g).pushFrame (.throwing q) := by
      refine e3.trans ?_
      rw [hf₂, State.calling_eq h.top, State.setFrames_setFrames, State.pushFrame, State.frames_setTop _ hr', State.setTop_of_frames _ hr', State.setFrames_setFrames, hr]
      rfl
    have hsame : U.sameButNew ({ U with heap := s₂.heap, slotsUsed := s₂.slotsUsed } : State) L mc ms := by
      refine ⟨?_, q2, q3, q4, q5, q6⟩
      obtain ⟨t, ht, -⟩ := State.frames_cons hr
      show ({ U with heap := s₂.heap, slotsUsed := s₂.slotsUsed } : State) = { U.setFrames U.frames with heap := s₂.heap, slotsUsed := s₂.slotsUsed }
      rw [State.setFrames_self ht]
    subst hg
    refine Or.inr ⟨q, ⟨(({ U with heap := s₂.heap, slotsUsed := s₂.slotsUsed } : State).setVm s₂.vm), Ls ++ L, c0 + mc, s0 + ms⟩,
      ⟨X.admits, X.cas, X.clock, X.frames, X.room, X.hears, X.method, X.code, (X.here.setHeapUsed s₂.heap s₂.slotsUsed).setVm hW'.alike, X.tail, State.WarmedH.trans X.warmed hW', X.limits, X.bytes, X.same.trans (hsame.setVm s.vm)⟩,
      ⟨g, mk, s₂, L, E, ce, rfl, rfl, hx, hce, hcv, hcl, rfl, hL, rfl, rfl⟩, ?_⟩
    show Steps p.tables e below _ (((({ U with heap := s₂.heap, slotsUsed := s₂.slotsUsed } : State).setVm s₂.vm).setTop g).pushFrame (.throwing q))
    rw [← hs₂]
    exact hsteps
end Payer
section Calls
variable {p : Program} {l : Launch} {e : Env} {R : Room} {s : State} {m : MethodId} {args : Array Value} {below : List Frame} {meth : Method} {c : Code} {T : State} {locs : List Loc} {cells slots : Nat}
theorem vx_callV (X : Stand p l e R s m args below meth c T locs cells slots) (hexec : p.tables.exec = Jvm.exec) {own C : String} {index : Nat} {y : MethodName} {bytes : ByteArray} {maxL : Nat} {ret : Option FieldType}
    (hown : s.vm.findClass own = some m.cls) (hlink : (Cond.methodLink own index y).before args s = true) (hinst : (Cond.instanceMethod y).before args s = true) (hsel : (Cond.selects C y y).before args s = true)
    (hcode : (Cond.code y bytes maxL ret).before args s = true) (hy : y.cls ≠ "java/lang/invoke/MethodHandle" ∧ y.cls ≠ "java/lang/invoke/VarHandle")
    {W9 : Nat} {Pre : Pt → Array Value → Prop} {Post : Pt → Array Value → Option Value → Pt → Prop} {PostX : Pt → Array Value → Addr → Pt → Prop} (hK : vx_Back l R p e below s args y 3 W9 Pre Post PostX)
    {b : Addr} {cellB : Cell} (hcell : T.heap[b]? = some cellB) (hobj : cellB.vm.isStatics = false) (hcls : s.vm.findClass C = some cellB.cls)
    {g : JFrame} (hg : g.method = m) (hsize : g.locals.size = c.maxLocals) {argsL rest : List Value} (hlen : ∀ sig, parseMethodDescriptor y.desc = some sig → argsL.length = sig.parameters.length)
    (hstack : g.stack = argsL.reverse ++ .ref b :: rest) (hW : 2 * g.monitorRoom + (rest.map fun v => v.category).sum ≤ W9) (hdg : decode c.code g.pc = .ok (.invokevirtual index, 3))
    (hpre : ∀ vm₁, s.WarmedH vm₁ → Pre ⟨T.setVm vm₁, locs, cells, slots⟩ (Value.ref b :: argsL).toArray) :
    (∃ (v : Option Value) (vm₁ : Vm) (B : Pt), s.WarmedH vm₁ ∧ Stand p l e R s m args below meth c B.U B.locs B.cells B.slots ∧ Post ⟨T.setVm vm₁, locs, cells, slots⟩ (Value.ref b :: argsL).toArray v B ∧
      ∀ target, Steps p.tables e below (B.U.setTop { g with pc := g.pc + 3, stack := v.toList ++ rest }) target → Steps p.tables e below (T.setTop g) target) ∨
    (∃ (q : Addr) (vm₁ : Vm) (B : Pt), s.WarmedH vm₁ ∧ Stand p l e R s m args below meth c B.U B.locs B.cells B.slots ∧ PostX ⟨T.setVm vm₁, locs, cells, slots⟩ (Value.ref b :: argsL).toArray q B ∧
      Steps p.tables e below (T.setTop g) ((B.U.setTop { g with stack := rest }).pushFrame (.throwing q))) := by
  obtain ⟨mk, methM, hnamed, hmethM, hstM, habM⟩ := Cond.instanceMethod_spec hinst
  obtain ⟨methM', cM, hmethM', -, -, -, -, -, -, hsigM⟩ := Cond.code_spec hnamed hcode
  cases hmethM.symm.trans hmethM'
  obtain ⟨c2, r2, m2, q1, q2, q3, q4, kP, hkP, hkPi⟩ := Cond.selects_spec hsel
  cases hcls.symm.trans q1
  cases (State.methodFound?_of_named hnamed hy).symm.trans q2
  cases hnamed.symm.trans q3
  have hselP : selectMethod e.platform s.vm cellB.cls mk = .method mk := by rw [Launch.admits_selectMethod X.admits]; exact q4
  obtain ⟨vm₁, X₁, hstep₁⟩ := X.invokevirtual hexec hown hlink hnamed hmethM hstM hkP hkPi hy (a := b) (cell := cellB) hcell
    (fun z h => by rw [h] at hobj; cases hobj) hselP hmethM habM hkP hkPi (g := g) hg (argsL := argsL) (rest := rest) (hlen _ hsigM) hstack hdg
  rcases hK m meth c ⟨T.setVm vm₁, locs, cells, slots⟩ { g with stack := rest } (.invokevirtual index) mk (Value.ref b :: argsL).toArray X₁ hg hsize hdg hW (X₁.named hnamed) (hpre vm₁ X₁.warmed) with ⟨v, B, X', hpost, hsteps⟩ | ⟨q, B, X', hpost, hsteps⟩
  · exact Or.inl ⟨v, vm₁, B, X₁.warmed, X', hpost, fun target h => hstep₁ _ fun acts => by rw [doInvoke_state]; exact hsteps.trans h⟩
  · exact Or.inr ⟨q, vm₁, B, X₁.warmed, X', hpost, hstep₁ _ fun acts => by rw [doInvoke_state]; exact hsteps⟩
theorem vx_callS (X : Stand p l e R s m args below meth c T locs cells slots) (hexec : p.tables.exec = Jvm.exec) {own : String} {index : Nat} {y : MethodName} {bytes : ByteArray} {maxL : Nat} {ret : Option FieldType}
    (hown : s.vm.findClass own = some m.cls) (hlink : (Cond.methodLink own index y).before args s = true) (hstat : (Cond.static y).before args s = true) (hinit : (Cond.initialized y.cls).before args s = true)
    (hcode : (Cond.code y bytes maxL ret).before args s = true) (hy : y.cls ≠ "java/lang/invoke/MethodHandle" ∧ y.cls ≠ "java/lang/invoke/VarHandle")
    {W9 : Nat} {Pre : Pt → Array Value → Prop} {Post : Pt → Array Value → Option Value → Pt → Prop} {PostX : Pt → Array Value → Addr → Pt → Prop} (hK : vx_Back l R p e below s args y 3 W9 Pre Post PostX)
    {g : JFrame} (hg : g.method = m) (hsize : g.locals.size = c.maxLocals) {argsL rest : List Value} (hlen : ∀ sig, parseMethodDescriptor y.desc = some sig → argsL.length = sig.parameters.length)
    (hstack : g.stack = argsL.reverse ++ rest) (hW : 2 * g.monitorRoom + (rest.map fun v => v.category).sum ≤ W9) (hdg : decode c.code g.pc = .ok (.invokestatic index, 3))
    (hpre : ∀ vm₁, s.WarmedH vm₁ → Pre ⟨T.setVm vm₁, locs, cells, slots⟩ argsL.toArray) :
    (∃ (v : Option Value) (vm₁ : Vm) (B : Pt), s.WarmedH vm₁ ∧ Stand p l e R s m args below meth c B.U B.locs B.cells B.slots ∧ Post ⟨T.setVm vm₁, locs, cells, slots⟩ argsL.toArray v B ∧
      ∀ target, Steps p.tables e below (B.U.setTop { g with pc := g.pc + 3, stack := v.toList ++ rest }) target → Steps p.tables e below (T.setTop g) target) ∨
    (∃ (q : Addr) (vm₁ : Vm) (B : Pt), s.WarmedH vm₁ ∧ Stand p l e R s m args below meth c B.U B.locs B.cells B.slots ∧ PostX ⟨T.setVm vm₁, locs, cells, slots⟩ argsL.toArray q B ∧
      Steps p.tables e below (T.setTop g) ((B.U.setTop { g with stack := rest }).pushFrame (.throwing q))) := by
  obtain ⟨mk, hnamed⟩ := Cond.code_named hcode
  obtain ⟨methM, cM, hmethM, -, -, -, -, -, -, hsigM⟩ := Cond.code_spec hnamed hcode
  have hstatic : methM.isStatic = true := Cond.static_spec hnamed hmethM hstat
  obtain ⟨kP, hkP, -⟩ := className_of_methodNamed hnamed
  have hinitP : kP.init = .initialized := Cond.initialized_spec (findClass_of_methodNamed hnamed) hkP hinit
  obtain ⟨vm₁, X₁, hstep₁⟩ := X.invokestatic hexec hown hlink hnamed hmethM hstatic hkP hinitP hy (g := g) hg (argsL := argsL) (rest := rest) (hlen _ hsigM) hstack hdg
  rcases hK m meth c ⟨T.setVm vm₁, locs, cells, slots⟩ { g with stack := rest } (.invokestatic index) mk argsL.toArray X₁ hg hsize hdg hW (X₁.named hnamed) (hpre vm₁ X₁.warmed) with ⟨v, B, X', hpost, hsteps⟩ | ⟨q, B, X', hpost, hsteps⟩
  · exact Or.inl ⟨v, vm₁, B, X₁.warmed, X', hpost, fun target h => hstep₁ _ fun acts => by rw [doInvoke_state]; exact hsteps.trans h⟩
  · exact Or.inr ⟨q, vm₁, B, X₁.warmed, X', hpost, hstep₁ _ fun acts => by rw [doInvoke_state]; exact hsteps⟩
end Calls
theorem vx_cls {s : State} {T : State} {vm₁ : Vm} {E : String} {k : ClassId} (hW : s.WarmedH vm₁) (h : (T.setVm vm₁).vm.findClass E = some k) : s.vm.findClass E = some k := by
  have h1 : vm₁.findClass E = some k := h
  rw [hW.alike.findClass] at h1
  exact h1
/-- the method's frame g, with q thrown over it -/
def vx_W (p : Program) (l : Launch) (e : Env) (R : Room) (s : State) (m : MethodId) (args : Array Value) (below : List Frame) (meth : Method) (c : Code) (H : Heap) (locs : List Loc) (cells slots : Nat) (Q : State → Prop) (g : JFrame) (q : Addr) : Prop :=
  ∀ T : State, T.heap = H → Stand p l e R s m args below meth c T locs cells slots → ∃ t, Steps p.tables e below ((T.setTop g).pushFrame (.throwing q)) t ∧ Q t
def vx_Run (p : Program) (l : Launch) (e : Env) (R : Room) (s : State) (m : MethodId) (args : Array Value) (below : List Frame) (meth : Method) (c : Code) (H : Heap) (locs : List Loc) (cells slots mc ms : Nat) (g : JFrame) (rest : List Value) (Qa : State → Outcome → State → Prop) (XC : String → State → State → Prop) (free : Addr → Prop) : Prop :=
  ∀ T : State, T.heap = H → Stand p l e R s m args below meth c T locs cells slots →
    (∃ (v : Option Value) (st₀ t T' : State) (L : List Loc), st₀.heap = H ∧ Stand p l e R s m args below meth c T' (locs ++ L) (cells + mc) (slots + ms) ∧ (∀ q ∈ L, free q.base) ∧ T'.heap = t.heap ∧ T'.vm = t.vm ∧ Qa st₀ (.returned v) t ∧
      Goes p e below T g T' { g with pc := g.pc + 3, stack := v.toList ++ rest }) ∨
    (∃ (q : Addr) (st₀ t T' : State) (L : List Loc) (E : String) (ce : Cell), st₀.heap = H ∧ Stand p l e R s m args below meth c T' (locs ++ L) (cells + mc) (slots + ms) ∧ (∀ z ∈ L, free z.base) ∧ T'.heap = t.heap ∧ T'.vm = t.vm ∧ XC E st₀ t ∧ t.heap[q]? = some ce ∧ ce.vm = .none ∧ s.vm.findClass E = some ce.cls ∧
      Steps p.tables e below (T.setTop g) ((T'.setTop { g with stack := rest }).pushFrame (.throwing q)))
def vx_X {S : Type} (px : S → Prop) (B : String → S → State → Prop) (A : Nat → Prop) : String → State → State → Prop := fun E st t => ∃ u : S, px u ∧ B E u t ∧ va_F A st t
section Runs
variable {p : Program} {l : Launch} {e : Env} {R : Room} {s : State} {m : MethodId} {args : Array Value} {below : List Frame} {meth : Method} {c : Code} {H : Heap} {locs : List Loc} {cells slots : Nat}
variable {y : MethodName} {bytes cc : ByteArray} {maxL nL mc ms n index : Nat} {ret : Option FieldType} {ws : List Cond} {rm : Room} {Pc : Array Value → State → Prop} {Qc : Array Value → State → Outcome → State → Prop} {XC : String → State → State → Prop} {free : Addr → Prop} {Ts : List Cond} {own C : String} {b : Addr} {As rest : List Value} {g : JFrame}
theorem vx_callBack (cb : CallB R s args own index y bytes maxL ret ws rm mc ms n) (hM : vx_Met l y ws rm Pc Qc XC mc ms free) (hbl : FrameBlind Pc) : vx_Back l R p e below s args y 3 8 (PreOf R mc ms Pc) (PostOf Qc mc ms free) (vx_Post XC mc ms free) := by
  obtain ⟨hrc, hrs, hfr, hlo, hws, hcw, -, hini, -⟩ := cb
  exact vx_back (bytes := bytes) (maxL := maxL) (ret := ret) hM hbl hrc hrs hfr hlo hws hcw (fun a' U hW => word_at hW (Or.inl (by first | rfl | simp [Cond.onTables, Cond.keeps, Cond.steady])) hini)
theorem vx_runV (S : CallFix p m c cc nL s args Ts own) (hM : vx_Met l y ws rm Pc Qc XC mc ms free) (cw : CallW R s args own C index y bytes maxL ret ws rm mc ms n) (hp : PreV s H C b Pc As)
    (hg : g.method = m) (hn : As.length = n) (hsize : g.locals.size = nL) (hstack : g.stack = As.reverse ++ .ref b :: rest) (hW : 2 * g.monitorRoom + (rest.map fun v => v.category).sum ≤ 8) (hdg : decode cc g.pc = .ok (.invokevirtual index, 3)) (hf : cells + mc ≤ R.cells ∧ slots + ms ≤ R.slots) :
    vx_Run p l e R s m args below meth c H locs cells slots mc ms g rest (Qc (Value.ref b :: As).toArray) XC free := by
  have hK : vx_Back l R p e below s args y 3 8 (PreOf R mc ms Pc) (PostOf Qc mc ms free) (vx_Post XC mc ms free) := vx_callBack cw.1 hM hp.1
  obtain ⟨⟨-, -, -, -, -, -, hcode, -, hy, hlen, hl⟩, hin, hse⟩ := cw
  obtain ⟨hx, hb, hml, ho, -⟩ := S
  obtain ⟨-, ⟨cellB, hcB, hoB, hclB⟩, hPc⟩ := hp
  intro T hT X
  rcases vx_callV X hx (C := C) (bytes := bytes) (maxL := maxL) (ret := ret) ho hl hin hse hcode hy hK (by rw [hT]; exact hcB) hoB hclB hg (hsize.trans hml.symm) (argsL := As) (rest := rest) (fun sig h => hn.trans (hlen sig h)) hstack hW (by rw [hb]; exact hdg)
    (fun vm₁ hW₁ => ⟨hf.1, hf.2, hPc (T.setVm vm₁) hT hW₁⟩) with ⟨v, vm₁, ⟨U', l2, c2, s2⟩, hW₁, X', ⟨g', mk, t, L, e1, e2, hq, h1, hL, h2, h3⟩, st⟩ | ⟨q, vm₁, ⟨U', l2, c2, s2⟩, hW₁, X', ⟨g', mk, t, L, E, ce, e1, e2, hq, hce, hcv, hcl, h1, hL, h2, h3⟩, st⟩
  · dsimp only [Pt.U, Pt.locs, Pt.cells, Pt.slots] at X' e1 e2 h1 h2 h3 st
    subst h1; subst h2; subst h3
    exact Or.inl ⟨v, (T.setVm vm₁).calling g' mk (Value.ref b :: As).toArray, t, U', L, hT, X', hL, e1, e2, hq, st⟩
  · dsimp only [Pt.U, Pt.locs, Pt.cells, Pt.slots] at X' e1 e2 h1 h2 h3 st hcl
    subst h1; subst h2; subst h3
    exact Or.inr ⟨q, (T.setVm vm₁).calling g' mk (Value.ref b :: As).toArray, t, U', L, E, ce, hT, X', hL, e1, e2, hq, hce, hcv, vx_cls hW₁ hcl, st⟩
theorem vx_runS (S : CallFix p m c cc nL s args Ts own) (hM : vx_Met l y ws rm Pc Qc XC mc ms free) (cw : CallB R s args own index y bytes maxL ret ws rm mc ms n ∧ (Cond.static y).before args s = true) (hp : PreS s H Pc As)
    (hg : g.method = m) (hn : As.length = n) (hsize : g.locals.size = nL) (hstack : g.stack = As.reverse ++ rest) (hW : 2 * g.monitorRoom + (rest.map fun v => v.category).sum ≤ 8) (hdg : decode cc g.pc = .ok (.invokestatic index, 3)) (hf : cells + mc ≤ R.cells ∧ slots + ms ≤ R.slots) :
    vx_Run p l e R s m args below meth c H locs cells slots mc ms g rest (Qc As.toArray) XC free := by
  have hK : vx_Back l R p e below s args y 3 8 (PreOf R mc ms Pc) (PostOf Qc mc ms free) (vx_Post XC mc ms free) := vx_callBack cw.1 hM hp.1
  obtain ⟨⟨-, -, -, -, -, -, hcode, hini, hy, hlen, hl⟩, hstt⟩ := cw
  obtain ⟨hx, hb, hml, ho, -⟩ := S
  intro T hT X
  rcases vx_callS X hx (bytes := bytes) (maxL := maxL) (ret := ret) ho hl hstt hini hcode hy hK hg (hsize.trans hml.symm) (argsL := As) (rest := rest) (fun sig h => hn.trans (hlen sig h)) hstack hW (by rw [hb]; exact hdg)
    (fun vm₁ hW₁ => ⟨hf.1, hf.2, hp.2 (T.setVm vm₁) hT hW₁⟩) with ⟨v, vm₁, ⟨U', l2, c2, s2⟩, hW₁, X', ⟨g', mk, t, L, e1, e2, hq, h1, hL, h2, h3⟩, st⟩ | ⟨q, vm₁, ⟨U', l2, c2, s2⟩, hW₁, X', ⟨g', mk, t, L, E, ce, e1, e2, hq, hce, hcv, hcl, h1, hL, h2, h3⟩, st⟩
  · dsimp only [Pt.U, Pt.locs, Pt.cells, Pt.slots] at X' e1 e2 h1 h2 h3 st
    subst h1; subst h2; subst h3
    exact Or.inl ⟨v, (T.setVm vm₁).calling g' mk As.toArray, t, U', L, hT, X', hL, e1, e2, hq, st⟩
  · dsimp only [Pt.U, Pt.locs, Pt.cells, Pt.slots] at X' e1 e2 h1 h2 h3 st hcl
    subst h1; subst h2; subst h3
    exact Or.inr ⟨q, (T.setVm vm₁).calling g' mk As.toArray, t, U', L, E, ce, hT, X', hL, e1, e2, hq, hce, hcv, vx_cls hW₁ hcl, st⟩
end Runs
section Rows
variable {p : Program} {l : Launch} {e : Env} {R : Room} {s : State} {m : MethodId} {args : Array Value} {below : List Frame} {meth : Method} {c : Code} {H : Heap} {locs : List Loc} {cells slots : Nat} {Q : State → Prop}
variable {mc ms : Nat} {free : Addr → Prop} {A0 A1 : Nat → Prop} {H0 : Heap} {a : Array Value} {pc : Nat} {ls : Array Slot} {st0 rest : List Value}
theorem vx_keep {st₀ t T' : State} {L : List Loc} (h0 : st₀.heap = H) (e1 : T'.heap = t.heap) (hS : va_S A0 H0 H locs) (hA : ∀ q, q < H.size → A1 q → A0 q) (hf : ∀ q, free q → A0 q) (hL : ∀ q ∈ L, free q.base) (hF : va_F A1 st₀ t) :
    H.size ≤ T'.heap.size ∧ (∀ q : Nat, q < H.size → ¬ A1 q → T'.heap[q]? = H[q]?) ∧ va_S A0 H0 T'.heap (locs ++ L) := by
  obtain ⟨hz, hk⟩ := hF
  rw [h0] at hz hk
  exact ⟨by rw [e1]; exact hz, fun q h1 h2 => by rw [e1]; exact hk q h1 h2,
    ⟨Nat.le_trans hS.1 (by rw [e1]; exact hz), fun q h1 h2 => by rw [e1, hk q (Nat.lt_of_lt_of_le h1 hS.1) (fun z => h2 (hA q (Nat.lt_of_lt_of_le h1 hS.1) z))]; exact hS.2.1 q h1 h2, fun q hq => by
      rcases List.mem_append.mp hq with h | h
      · exact hS.2.2 q h
      · exact hf _ (hL q h)⟩⟩
theorem vx_calli {S SX : Type} {post : Int32 → S → Prop} {px : SX → Prop} {B : S → State → Prop} {BX : String → SX → State → Prop} {AX : Nat → Prop} (hr : vx_Run p l e R s m args below meth c H locs cells slots mc ms (F0 m pc ls st0) rest (va_Qi post B A1 a) (vx_X px BX AX) free) (hS : va_S A0 H0 H locs) (hA : ∀ q, q < H.size → A1 q → A0 q) (hf : ∀ q, free q → A0 q) (hAX : ∀ q, q < H.size → AX q → A0 q)
    (kx : ∀ (E : String) (ce : Cell) (q9 : Addr) (u : SX) (t : State) (H1 : Heap) (locs1 : List Loc), t.heap = H1 → s.vm.Alike t.vm → px u → BX E u t → H.size ≤ H1.size → (∀ q : Nat, q < H.size → ¬ AX q → H1[q]? = H[q]?) → va_S A0 H0 H1 locs1 → H1[q9]? = some ce → ce.vm = .none → s.vm.findClass E = some ce.cls → vx_W p l e R s m args below meth c H1 locs1 (cells + mc) (slots + ms) Q (F0 m pc ls rest) q9)
    (kk : ∀ (r : Int32) (u : S) (t : State) (H1 : Heap) (locs1 : List Loc), t.heap = H1 → s.vm.Alike t.vm → post r u → B u t → H.size ≤ H1.size → (∀ q : Nat, q < H.size → ¬ A1 q → H1[q]? = H[q]?) → va_S A0 H0 H1 locs1 → W p l e R s m args below meth c H1 locs1 (cells + mc) (slots + ms) Q (F0 m (pc + 3) ls (.int r :: rest))) : W p l e R s m args below meth c H locs cells slots Q (F0 m pc ls st0) := by
  intro T hT X
  rcases hr T hT X with ⟨v, st₀, t, T', L, h0, X', hL, e1, e2, ⟨⟨r, u, hv, hp, hb⟩, hF⟩, st⟩ | ⟨q, st₀, t, T', L, E, ce, h0, X', hL, e1, e2, ⟨u, hp, hb, hF⟩, hce, hcv, hcl, st⟩
  · cases hv
    obtain ⟨k1, k2, k3⟩ := vx_keep h0 e1 hS hA hf hL hF
    obtain ⟨t2, a1, b1⟩ := kk r u t T'.heap (locs ++ L) e1.symm (by rw [← e2]; exact X'.warmed.alike) hp hb k1 k2 k3 T' rfl X'
    exact ⟨t2, st t2 a1, b1⟩
  · obtain ⟨k1, k2, k3⟩ := vx_keep h0 e1 hS hAX hf hL hF
    obtain ⟨t2, a1, b1⟩ := kx E ce q u t T'.heap (locs ++ L) e1.symm (by rw [← e2]; exact X'.warmed.alike) hp hb k1 k2 k3 (by rw [e1]; exact hce) hcv hcl T' rfl X'
    exact ⟨t2, st.trans a1, b1⟩
theorem vx_calll {S SX : Type} {post : Int64 → S → Prop} {px : SX → Prop} {B : S → State → Prop} {BX : String → SX → State → Prop} {AX : Nat → Prop} (hr : vx_Run p l e R s m args below meth c H locs cells slots mc ms (F0 m pc ls st0) rest (va_Ql post B A1 a) (vx_X px BX AX) free) (hS : va_S A0 H0 H locs) (hA : ∀ q, q < H.size → A1 q → A0 q) (hf : ∀ q, free q → A0 q) (hAX : ∀ q, q < H.size → AX q → A0 q)
    (kx : ∀ (E : String) (ce : Cell) (q9 : Addr) (u : SX) (t : State) (H1 : Heap) (locs1 : List Loc), t.heap = H1 → s.vm.Alike t.vm → px u → BX E u t → H.size ≤ H1.size → (∀ q : Nat, q < H.size → ¬ AX q → H1[q]? = H[q]?) → va_S A0 H0 H1 locs1 → H1[q9]? = some ce → ce.vm = .none → s.vm.findClass E = some ce.cls → vx_W p l e R s m args below meth c H1 locs1 (cells + mc) (slots + ms) Q (F0 m pc ls rest) q9)
    (kk : ∀ (r : Int64) (u : S) (t : State) (H1 : Heap) (locs1 : List Loc), t.heap = H1 → s.vm.Alike t.vm → post r u → B u t → H.size ≤ H1.size → (∀ q : Nat, q < H.size → ¬ A1 q → H1[q]? = H[q]?) → va_S A0 H0 H1 locs1 → W p l e R s m args below meth c H1 locs1 (cells + mc) (slots + ms) Q (F0 m (pc + 3) ls (.long r :: rest))) : W p l e R s m args below meth c H locs cells slots Q (F0 m pc ls st0) := by
  intro T hT X
  rcases hr T hT X with ⟨v, st₀, t, T', L, h0, X', hL, e1, e2, ⟨⟨r, u, hv, hp, hb⟩, hF⟩, st⟩ | ⟨q, st₀, t, T', L, E, ce, h0, X', hL, e1, e2, ⟨u, hp, hb, hF⟩, hce, hcv, hcl, st⟩
  · cases hv
    obtain ⟨k1, k2, k3⟩ := vx_keep h0 e1 hS hA hf hL hF
    obtain ⟨t2, a1, b1⟩ := kk r u t T'.heap (locs ++ L) e1.symm (by rw [← e2]; exact X'.warmed.alike) hp hb k1 k2 k3 T' rfl X'
    exact ⟨t2, st t2 a1, b1⟩
  · obtain ⟨k1, k2, k3⟩ := vx_keep h0 e1 hS hAX hf hL hF
    obtain ⟨t2, a1, b1⟩ := kx E ce q u t T'.heap (locs ++ L) e1.symm (by rw [← e2]; exact X'.warmed.alike) hp hb k1 k2 k3 (by rw [e1]; exact hce) hcv hcl T' rfl X'
    exact ⟨t2, st.trans a1, b1⟩
theorem vx_callf {S SX : Type} {post : UInt32 → S → Prop} {px : SX → Prop} {B : S → State → Prop} {BX : String → SX → State → Prop} {AX : Nat → Prop} (hr : vx_Run p l e R s m args below meth c H locs cells slots mc ms (F0 m pc ls st0) rest (va_Qf post B A1 a) (vx_X px BX AX) free) (hS : va_S A0 H0 H locs) (hA : ∀ q, q < H.size → A1 q → A0 q) (hf : ∀ q, free q → A0 q) (hAX : ∀ q, q < H.size → AX q → A0 q)
    (kx : ∀ (E : String) (ce : Cell) (q9 : Addr) (u : SX) (t : State) (H1 : Heap) (locs1 : List Loc), t.heap = H1 → s.vm.Alike t.vm → px u → BX E u t → H.size ≤ H1.size → (∀ q : Nat, q < H.size → ¬ AX q → H1[q]? = H[q]?) → va_S A0 H0 H1 locs1 → H1[q9]? = some ce → ce.vm = .none → s.vm.findClass E = some ce.cls → vx_W p l e R s m args below meth c H1 locs1 (cells + mc) (slots + ms) Q (F0 m pc ls rest) q9)
    (kk : ∀ (r : UInt32) (u : S) (t : State) (H1 : Heap) (locs1 : List Loc), t.heap = H1 → s.vm.Alike t.vm → post r u → B u t → H.size ≤ H1.size → (∀ q : Nat, q < H.size → ¬ A1 q → H1[q]? = H[q]?) → va_S A0 H0 H1 locs1 → W p l e R s m args below meth c H1 locs1 (cells + mc) (slots + ms) Q (F0 m (pc + 3) ls (.float r :: rest))) : W p l e R s m args below meth c H locs cells slots Q (F0 m pc ls st0) := by
  intro T hT X
  rcases hr T hT X with ⟨v, st₀, t, T', L, h0, X', hL, e1, e2, ⟨⟨r, u, hv, hp, hb⟩, hF⟩, st⟩ | ⟨q, st₀, t, T', L, E, ce, h0, X', hL, e1, e2, ⟨u, hp, hb, hF⟩, hce, hcv, hcl, st⟩
  · cases hv
    obtain ⟨k1, k2, k3⟩ := vx_keep h0 e1 hS hA hf hL hF
    obtain ⟨t2, a1, b1⟩ := kk r u t T'.heap (locs ++ L) e1.symm (by rw [← e2]; exact X'.warmed.alike) hp hb k1 k2 k3 T' rfl X'
    exact ⟨t2, st t2 a1, b1⟩
  · obtain ⟨k1, k2, k3⟩ := vx_keep h0 e1 hS hAX hf hL hF
    obtain ⟨t2, a1, b1⟩ := kx E ce q u t T'.heap (locs ++ L) e1.symm (by rw [← e2]; exact X'.warmed.alike) hp hb k1 k2 k3 (by rw [e1]; exact hce) hcv hcl T' rfl X'
    exact ⟨t2, st.trans a1, b1⟩
theorem vx_calld {S SX : Type} {post : UInt64 → S → Prop} {px : SX → Prop} {B : S → State → Prop} {BX : String → SX → State → Prop} {AX : Nat → Prop} (hr : vx_Run p l e R s m args below meth c H locs cells slots mc ms (F0 m pc ls st0) rest (va_Qd post B A1 a) (vx_X px BX AX) free) (hS : va_S A0 H0 H locs) (hA : ∀ q, q < H.size → A1 q → A0 q) (hf : ∀ q, free q → A0 q) (hAX : ∀ q, q < H.size → AX q → A0 q)
    (kx : ∀ (E : String) (ce : Cell) (q9 : Addr) (u : SX) (t : State) (H1 : Heap) (locs1 : List Loc), t.heap = H1 → s.vm.Alike t.vm → px u → BX E u t → H.size ≤ H1.size → (∀ q : Nat, q < H.size → ¬ AX q → H1[q]? = H[q]?) → va_S A0 H0 H1 locs1 → H1[q9]? = some ce → ce.vm = .none → s.vm.findClass E = some ce.cls → vx_W p l e R s m args below meth c H1 locs1 (cells + mc) (slots + ms) Q (F0 m pc ls rest) q9)
    (kk : ∀ (r : UInt64) (u : S) (t : State) (H1 : Heap) (locs1 : List Loc), t.heap = H1 → s.vm.Alike t.vm → post r u → B u t → H.size ≤ H1.size → (∀ q : Nat, q < H.size → ¬ A1 q → H1[q]? = H[q]?) → va_S A0 H0 H1 locs1 → W p l e R s m args below meth c H1 locs1 (cells + mc) (slots + ms) Q (F0 m (pc + 3) ls (.double r :: rest))) : W p l e R s m args below meth c H locs cells slots Q (F0 m pc ls st0) := by
  intro T hT X
  rcases hr T hT X with ⟨v, st₀, t, T', L, h0, X', hL, e1, e2, ⟨⟨r, u, hv, hp, hb⟩, hF⟩, st⟩ | ⟨q, st₀, t, T', L, E, ce, h0, X', hL, e1, e2, ⟨u, hp, hb, hF⟩, hce, hcv, hcl, st⟩
  · cases hv
    obtain ⟨k1, k2, k3⟩ := vx_keep h0 e1 hS hA hf hL hF
    obtain ⟨t2, a1, b1⟩ := kk r u t T'.heap (locs ++ L) e1.symm (by rw [← e2]; exact X'.warmed.alike) hp hb k1 k2 k3 T' rfl X'
    exact ⟨t2, st t2 a1, b1⟩
  · obtain ⟨k1, k2, k3⟩ := vx_keep h0 e1 hS hAX hf hL hF
    obtain ⟨t2, a1, b1⟩ := kx E ce q u t T'.heap (locs ++ L) e1.symm (by rw [← e2]; exact X'.warmed.alike) hp hb k1 k2 k3 (by rw [e1]; exact hce) hcv hcl T' rfl X'
    exact ⟨t2, st.trans a1, b1⟩
theorem vx_callv {S SX : Type} {post : S → Prop} {px : SX → Prop} {B : S → State → Prop} {BX : String → SX → State → Prop} {AX : Nat → Prop} (hr : vx_Run p l e R s m args below meth c H locs cells slots mc ms (F0 m pc ls st0) rest (va_Qv post B A1 a) (vx_X px BX AX) free) (hS : va_S A0 H0 H locs) (hA : ∀ q, q < H.size → A1 q → A0 q) (hf : ∀ q, free q → A0 q) (hAX : ∀ q, q < H.size → AX q → A0 q)
    (kx : ∀ (E : String) (ce : Cell) (q9 : Addr) (u : SX) (t : State) (H1 : Heap) (locs1 : List Loc), t.heap = H1 → s.vm.Alike t.vm → px u → BX E u t → H.size ≤ H1.size → (∀ q : Nat, q < H.size → ¬ AX q → H1[q]? = H[q]?) → va_S A0 H0 H1 locs1 → H1[q9]? = some ce → ce.vm = .none → s.vm.findClass E = some ce.cls → vx_W p l e R s m args below meth c H1 locs1 (cells + mc) (slots + ms) Q (F0 m pc ls rest) q9)
    (kk : ∀ (u : S) (t : State) (H1 : Heap) (locs1 : List Loc), t.heap = H1 → s.vm.Alike t.vm → post u → B u t → H.size ≤ H1.size → (∀ q : Nat, q < H.size → ¬ A1 q → H1[q]? = H[q]?) → va_S A0 H0 H1 locs1 → W p l e R s m args below meth c H1 locs1 (cells + mc) (slots + ms) Q (F0 m (pc + 3) ls (rest))) : W p l e R s m args below meth c H locs cells slots Q (F0 m pc ls st0) := by
  intro T hT X
  rcases hr T hT X with ⟨v, st₀, t, T', L, h0, X', hL, e1, e2, ⟨⟨u, hv, hp, hb⟩, hF⟩, st⟩ | ⟨q, st₀, t, T', L, E, ce, h0, X', hL, e1, e2, ⟨u, hp, hb, hF⟩, hce, hcv, hcl, st⟩
  · cases hv
    obtain ⟨k1, k2, k3⟩ := vx_keep h0 e1 hS hA hf hL hF
    obtain ⟨t2, a1, b1⟩ := kk u t T'.heap (locs ++ L) e1.symm (by rw [← e2]; exact X'.warmed.alike) hp hb k1 k2 k3 T' rfl X'
    exact ⟨t2, st t2 a1, b1⟩
  · obtain ⟨k1, k2, k3⟩ := vx_keep h0 e1 hS hAX hf hL hF
    obtain ⟨t2, a1, b1⟩ := kx E ce q u t T'.heap (locs ++ L) e1.symm (by rw [← e2]; exact X'.warmed.alike) hp hb k1 k2 k3 (by rw [e1]; exact hce) hcv hcl T' rfl X'
    exact ⟨t2, st.trans a1, b1⟩
/-- caught by the row x of this method's table; the rows ahead don't take it -/
theorem vx_catch {own name : String} {E : String} {ce : Cell} {q : Addr} (hown : s.vm.findClass own = some m.cls) (pre : List ExceptionTableEntry) (x : ExceptionTableEntry) (suf : List ExceptionTableEntry) (hsplit : c.exceptionTable.toList = pre ++ x :: suf)
    (hpass : ∀ z ∈ pre, covers z pc = false ∨ (z.catchType ≠ 0 ∧ ∃ nm : String, (Cond.classLink own z.catchType nm).before args s = true ∧ va_Nc E nm s)) (hx : covers x pc = true) (h0 : x.catchType ≠ 0)
    (hlink : (Cond.classLink own x.catchType name).before args s = true) (hcast : (Cond.castable E name).before args s = true) (hcell : H[q]? = some ce) (hv : ce.vm = .none) (hcl : s.vm.findClass E = some ce.cls)
    (kk : W p l e R s m args below meth c H locs cells slots Q (F0 m x.handlerPc ls [.ref q])) : vx_W p l e R s m args below meth c H locs cells slots Q (F0 m pc ls rest) q := by
  intro T hT X
  have hpl : e.platform.magicAccessors = ({} : Platform).magicAccessors := by rw [X.admits.platform]
  obtain ⟨c3, c4, hc3, hc4, hasg⟩ := Cond.castable_spec hcast
  cases Option.some.inj (hc3.symm.trans hcl)
  obtain ⟨c5, hc5, hcl5⟩ := Cond.classLink_spec hown hlink e.platform hpl
  cases Option.some.inj (hc4.symm.trans hc5)
  obtain ⟨vm', X', st⟩ := X.thenCaughtThrough q (g := F0 m pc ls rest) rfl (Steps.refl _) (by rw [hT]; exact hcell) (by rw [hv]; rfl) (by obtain ⟨k9, h9, -⟩ := Vm.findClass_spec hcl; exact ⟨k9, h9⟩) pre x suf hsplit
    (fun z hz => by
      rcases hpass z hz with h | ⟨hz0, nm, hl1, hn1⟩
      · exact Or.inl h
      · obtain ⟨c6, hc6, hcl6⟩ := Cond.classLink_spec hown hl1 e.platform hpl
        obtain ⟨a8, b8, h1, h2, h3⟩ := hn1
        cases Option.some.inj (h1.symm.trans hcl)
        cases Option.some.inj (h2.symm.trans hc6)
        exact Or.inr ⟨hz0, _, hcl6, h3⟩) hx (Or.inr ⟨h0, c4, hcl5, hasg⟩)
  obtain ⟨t, a1, b1⟩ := kk (T.setVm vm') hT X'
  exact ⟨t, st.trans a1, b1⟩
end Rows
section Ends
variable {p : Program} {l : Launch} {e : Env} {R : Room} {s : State} {m : MethodId} {args : Array Value} {below : List Frame} {meth : Method} {c : Code} {H : Heap} {locs : List Loc} {cells slots : Nat} {Q : State → Prop}
variable {mc ms : Nat} {free : Addr → Prop} {A0 A1 : Nat → Prop} {H0 : Heap} {a : Array Value} {ls : Array Slot} {st0 rest : List Value}
variable {Qc : Array Value → State → Outcome → State → Prop} {XC : String → State → State → Prop}
/-- what a body that may throw owes at its end -/
def vx_MQ (below : List Frame) (Qc : Array Value → State → Outcome → State → Prop) (XC : String → State → State → Prop) (a : Array Value) (s : State) (mc ms : Nat) (free : Addr → Prop) : State → Prop := fun t =>
  ∃ o, t.status = .running ∧ Ended t below o ∧ vx_Q Qc XC mc ms free a s o t
theorem vx_ret {g : JFrame} {mc ms : Nat} (k : W p l e R s m args below meth c H locs cells slots (MQ below Qc args s mc ms free) g) : W p l e R s m args below meth c H locs cells slots (vx_MQ below Qc XC args s mc ms free) g := by
  intro T hT X
  obtain ⟨t, a1, o, b1, b2, b3, b4⟩ := k T hT X
  exact ⟨t, a1, o, b1, b2, Or.inl ⟨b3, b4⟩⟩
/-- not caught here: it goes on to the caller -/
theorem vx_widen {g : JFrame} {q : Addr} {k n : Nat} (h1 : cells ≤ k) (h2 : slots ≤ n) (kk : vx_W p l e R s m args below meth c H locs k n Q g q) : vx_W p l e R s m args below meth c H locs cells slots Q g q := fun T hT X => kk T hT (stand_widen X h1 h2)
theorem vx_out {pc : Nat} {E : String} {ce : Cell} {q : Addr} {mc ms : Nat} (hout : ∀ x ∈ c.exceptionTable.toList, covers x pc = false) (hlocks : meth.locks = false) (hcell : H[q]? = some ce) (hv : ce.vm = .none) (hcl : s.vm.findClass E = some ce.cls)
    (hx : ∀ t : State, t.heap = H → s.vm.Alike t.vm → XC E s t) (hf : ∀ z ∈ locs, free z.base) (hc : cells ≤ mc) (hs : slots ≤ ms) :
    vx_W p l e R s m args below meth c H locs cells slots (vx_MQ below Qc XC args s mc ms free) (F0 m pc ls rest) q := by
  intro T hT X
  obtain ⟨st1, hrun, hend, hW, hsm⟩ := X.leaveThrown q (g := F0 m pc ls rest) rfl rfl rfl hout hlocks
  have hcell9 : (T.setFrames (.throwing q :: below)).heap[q]? = some ce := by
    show T.heap[q]? = some ce
    rw [hT]; exact hcell
  exact ⟨_, st1, .threw q, hrun, hend, Or.inr ⟨q, rfl, E, ce, locs, hx _ hT hW.alike, hcell9, hv, hcl, hW, hsm.mono hc hs, hf⟩⟩
theorem vx_frame {U : State} {k n : Nat} (h : s.sameButNew ({ U with vm := s.vm } : State) locs k n) : s.heap.size ≤ U.heap.size ∧ ∀ q : Nat, q < s.heap.size → (∀ z ∈ locs, z.base ≠ q) → U.heap[q]? = s.heap[q]? := by
  obtain ⟨-, h2, -, -, -, h6⟩ := h
  refine ⟨h2, fun q hq hz => ?_⟩
  obtain ⟨c9, e1, e2, e3, e4⟩ := h6 q _ (Array.getElem?_eq_getElem hq)
  have hs : c9.slots = (s.heap[q]).slots := Array.ext_getElem? fun i => e4 i fun hm => hz _ hm rfl
  have h9 : c9 = s.heap[q] := by
    rw [hs] at e2
    exact e2
  have e5 : U.heap[q]? = some c9 := e1
  rw [e5, h9, Array.getElem?_eq_getElem hq]
/-- the words of a throw but the four that speak of the heap -/
def vx_no (w : Cond) : Bool := decide (w ≠ .isRef (.static Bundle.tN "UNASSIGNED_STACK" Bundle.steD)) && decide (w ≠ .isRef (.static Bundle.tN "SUPPRESSED_SENTINEL" Bundle.listD)) && decide (w ≠ .laysStatic Bundle.tN "UNASSIGNED_STACK" Bundle.steD) && decide (w ≠ .laysStatic Bundle.tN "SUPPRESSED_SENTINEL" Bundle.listD)
def vx_at0 (own : String) (ic : Nat) (X : String) (names : List String) : List Cond := (Bundle.ownAtoms0 own ic X names).filter vx_no
def vx_atS (own : String) (ic : Nat) (X : String) (names : List String) : List Cond := (Bundle.ownAtoms own ic X names).filter vx_no
/-- a word that the tables alone decide, or a good one -/
def vx_ot (w : Cond) : Bool := w.onTables || goodWord w
theorem vx_ot_at {args a' : Array Value} {s U : State} {w : Cond} (hW : s.WarmedH U.vm) (hvm : s.vm = U.vm) (hg : vx_ot w = true) (h : w.before args s = true) : w.before a' U = true := by
  simp only [vx_ot, Bool.or_eq_true] at hg
  rcases hg with hg | hg
  · exact va_tabs hg hvm h
  · exact word_at hW (good_of_word hg) h
/-- a list's words: the good ones out of the method's own list, the others by premises of their own -/
theorem vx_hat {args : Array Value} {s : State} {L B : List Cond} (h1 : ∀ w ∈ L.filter goodWord, w.before args s = true) (h2 : ∀ w ∈ L.filter (fun w => !goodWord w), w ∈ B) (h3 : ∀ w ∈ B, w.before args s = true) : ∀ w ∈ L, w.before args s = true := by
  intro w hw
  by_cases g : goodWord w = true
  · exact h1 w (List.mem_filter.mpr ⟨hw, g⟩)
  · refine h3 w (h2 w (List.mem_filter.mpr ⟨hw, ?_⟩))
    show (!goodWord w) = true
    cases hgw : goodWord w
    · rfl
    · exact absurd hgw g
theorem vx_c {args : Array Value} {s : State} {w : Cond} {B : List Cond} (h : w.before args s = true) (t : ∀ w ∈ B, w.before args s = true) : ∀ w' ∈ w :: B, w'.before args s = true := fun w' h' => (List.mem_cons.mp h').elim (fun e => by rw [e]; exact h) (t w')
theorem vx_n {args : Array Value} {s : State} : ∀ w ∈ ([] : List Cond), w.before args s = true := fun _ h => nomatch h
theorem vx_own {args : Array Value} {s : State} {L : List Cond} (h1 : ∀ w ∈ L.filter vx_no, w.before args s = true)
    (hU : (Cond.isRef (.static Bundle.tN "UNASSIGNED_STACK" Bundle.steD)).before args s = true) (hN : (Cond.isRef (.static Bundle.tN "SUPPRESSED_SENTINEL" Bundle.listD)).before args s = true)
    (lU : (Cond.laysStatic Bundle.tN "UNASSIGNED_STACK" Bundle.steD).before args s = true) (lN : (Cond.laysStatic Bundle.tN "SUPPRESSED_SENTINEL" Bundle.listD).before args s = true) : ∀ w ∈ L, w.before args s = true := by
  intro w hw
  by_cases e1 : w = .isRef (.static Bundle.tN "UNASSIGNED_STACK" Bundle.steD)
  · rw [e1]; exact hU
  · by_cases e2 : w = .isRef (.static Bundle.tN "SUPPRESSED_SENTINEL" Bundle.listD)
    · rw [e2]; exact hN
    · by_cases e3 : w = .laysStatic Bundle.tN "UNASSIGNED_STACK" Bundle.steD
      · rw [e3]; exact lU
      · by_cases e4 : w = .laysStatic Bundle.tN "SUPPRESSED_SENTINEL" Bundle.listD
        · rw [e4]; exact lN
        · exact h1 w (List.mem_filter.mpr ⟨hw, by unfold vx_no; rw [decide_eq_true e1, decide_eq_true e2, decide_eq_true e3, decide_eq_true e4]; rfl⟩)
/-- where a static field lies, its class's statics cell in H -/
def vx_L (C n d : String) (A : Nat → Prop) (U : State) (H : Heap) : Prop := ∃ (c : ClassId) (k : Class) (i : Nat) (f : Field) (a : Nat) (cell : Cell), U.vm.findClass C = some c ∧ U.fieldFound? C n d = some (c, k, i, f) ∧ f.isStatic = true ∧ k.statics = some a ∧ H[a]? = some cell ∧ cell.vm.isStatics = true ∧ cell.cls = c ∧ f.slot < cell.slots.size ∧ k.staticTypes[f.slot]? = some f.type ∧ ¬ A a
theorem vx_L.moved {C n d : String} {A : Nat → Prop} {u U : State} {H : Heap} (hvm : u.vm.Alike U.vm) (h : vx_L C n d A u H) : vx_L C n d A U H := by
  obtain ⟨c, k, i, f, a, cell, h1, h2, h3, h4, h5, h6, h7, h8, h9, h10⟩ := h
  obtain ⟨k', hi', he⟩ := State.fieldFound?_setVm hvm h2
  exact ⟨c, k', i, f, a, cell, by rw [hvm.findClass]; exact h1, hi', h3, by rw [he]; exact h4, h5, h6, h7, h8, by rw [he]; exact h9, h10⟩
theorem vx_L.kept {C n d : String} {A : Nat → Prop} {U : State} {H H1 : Heap} (h : vx_L C n d A U H) (hq : ∀ a : Nat, a < H.size → ¬ A a → H1[a]? = H[a]?) : vx_L C n d A U H1 := by
  obtain ⟨c, k, i, f, a, cell, h1, h2, h3, h4, h5, h6, h7, h8, h9, h10⟩ := h
  exact ⟨c, k, i, f, a, cell, h1, h2, h3, h4, by rw [hq a (Array.getElem?_eq_some_iff.mp h5).1 h10]; exact h5, h6, h7, h8, h9, h10⟩
theorem vx_L.narrow {C n d : String} {A B : Nat → Prop} {U : State} {H : Heap} (h : vx_L C n d A U H) (hAB : ∀ q, B q → A q) : vx_L C n d B U H := by
  obtain ⟨c, k, i, f, a, cell, h1, h2, h3, h4, h5, h6, h7, h8, h9, h10⟩ := h
  exact ⟨c, k, i, f, a, cell, h1, h2, h3, h4, h5, h6, h7, h8, h9, fun z => h10 (hAB _ z)⟩
theorem vx_L.word {C n d : String} {A : Nat → Prop} {s : State} {args : Array Value} (h : vx_L C n d A s s.heap) : (Cond.laysStatic C n d).before args s = true := by
  obtain ⟨c, k, i, f, a, cell, h1, h2, h3, h4, h5, h6, h7, h8, h9, -⟩ := h
  show (Cond.laysStatic C n d).holds args s none s [] = true
  exact Cond.laysStatic_of h1 h2 h3 h4 h5 h6 h7 h8 h9
/-- .. and what it holds: null or some reference -/
def vx_Zq (C n d : String) (A : Nat → Prop) (U : State) (H : Heap) : Prop := va_Zq C n d A U H ∧ vx_L C n d A U H
theorem vx_Zq.moved {C n d : String} {A : Nat → Prop} {u U : State} {H : Heap} (hvm : u.vm.Alike U.vm) (h : vx_Zq C n d A u H) : vx_Zq C n d A U H := ⟨va_Zq.moved hvm h.1, vx_L.moved hvm h.2⟩
theorem vx_Zq.kept {C n d : String} {A : Nat → Prop} {U : State} {H H1 : Heap} (h : vx_Zq C n d A U H) (hq : ∀ a : Nat, a < H.size → ¬ A a → H1[a]? = H[a]?) : vx_Zq C n d A U H1 := ⟨va_Zq.kept h.1 hq, vx_L.kept h.2 hq⟩
theorem vx_Zq.narrow {C n d : String} {A B : Nat → Prop} {U : State} {H : Heap} (h : vx_Zq C n d A U H) (hAB : ∀ q, B q → A q) : vx_Zq C n d B U H := ⟨va_Zq.narrow h.1 hAB, vx_L.narrow h.2 hAB⟩
theorem vx_Zqof {args : Array Value} {s : State} {C n d : String} {A : Nat → Prop} (hl : (Cond.laysStatic C n d).before args s = true) (hini : (Cond.initialized C).before args s = true) (h : (Cond.isRef (.static C n d)).before args s = true) (hA : ∀ a : Nat, a < s.heap.size → ¬ A a) : vx_Zq C n d A s s.heap := by
  refine ⟨va_Zqof hl hini h hA, ?_⟩
  obtain ⟨c, k, i, f, a, cell, h1, h2, h3, h4, h5, h6, h7, h8, h9⟩ := Cond.laysStatic_spec hl
  exact ⟨c, k, i, f, a, cell, h1, h2, h3, h4, h5, h6, h7, h8, h9, hA a (Array.getElem?_eq_some_iff.mp h5).1⟩
theorem vx_isRef {C n d : String} {v : Value} {A : Nat → Prop} {s : State} {args : Array Value} (h : va_Z C n d v A s s.heap) (hv : v.isRef = true) : (Cond.isRef (.static C n d)).before args s = true := by
  obtain ⟨cf, kf, fi, f, a, cell, h1, h2, h3, h4, h5, h6, h7, -⟩ := h
  have he : (Term.static C n d).eval args s none [] s = some v := by
    simp [Term.eval, State.fieldNamed?, h1, h2, h4, h5, h6, h7]
  simp only [Cond.before, Cond.holds, Cond.value, he]
  cases v <;> simp_all [Value.isRef]
theorem vx_isRefq {C n d : String} {A : Nat → Prop} {s : State} {args : Array Value} (h : va_Zq C n d A s s.heap) : (Cond.isRef (.static C n d)).before args s = true := by
  rcases h with h | ⟨t, h⟩
  · exact vx_isRef h rfl
  · exact vx_isRef h rfl
/-- the same frame, seen from here: as if the method were called anew in this heap -/
theorem vx_rebase {T : State} (X : Stand p l e R s m args below meth c T locs cells slots) {R' : Room} (hf : R'.frames ≤ R.frames) (hl : R'.locals ≤ R.locals) (hc : cells + R'.cells ≤ R.cells) (hs : slots + R'.slots ≤ R.slots) :
    Stand p l e R' ((T.setVm s.vm).setFrames (.invoking m args :: below)) m args below meth c T [] 0 0 := by
  have htop : (T.setVm s.vm).topJava?.isSome := X.here.top
  have hF : ((T.setVm s.vm).setFrames (.invoking m args :: below)).frames = .invoking m args :: below := State.frames_setFrames _ (State.cur_lt_of_top htop)
  obtain ⟨g₀, hg0⟩ := Option.isSome_iff_exists.mp htop
  obtain ⟨r, hr⟩ := State.topJava?_eq_some.mp hg0
  have hl9 : e.platform.stackLimits (T.setVm s.vm).me = e.platform.stackLimits s.me := X.limits
  have hb9 : (T.setVm s.vm).me.stackBytes = s.me.stackBytes := X.bytes
  refine ⟨X.admits, X.cas, X.clock, hF, ?_, X.hears, X.method, X.code, X.here, X.tail, X.warmed, ?_, ?_, ?_⟩
  · have h := X.room
    have hU : ((T.setVm s.vm).setFrames (.invoking m args :: below)).localsInUse = s.localsInUse := by
      rw [State.localsInUse_invoking hF (meth := meth) (c := c) X.method X.code, State.localsInUse_invoking X.frames X.method X.code]
    simp only [State.hasRoom, Bool.and_eq_true, decide_eq_true_eq] at h ⊢
    obtain ⟨⟨⟨⟨h1, h2, h3, h4, h5, h6⟩, h7⟩, h8⟩, h9⟩ := h
    rw [X.frames, List.length_cons] at h2 h3
    have q1 := X.heapSize
    have q2 := X.used
    simp only [hF, hU, List.length_cons, State.stackLimits_setFrames, State.stackBytes_setFrames, hl9, hb9]
    refine ⟨⟨⟨⟨by omega, by omega, by omega, by omega, by omega, h6⟩, ?_⟩, ?_⟩, X.book⟩
    · show T.heap.size + R'.cells ≤ e.platform.maxCells
      omega
    · show T.slotsUsed + R'.slots ≤ e.platform.maxSlots
      omega
  · rw [State.stackLimits_setFrames]; rfl
  · rw [State.stackBytes_setFrames]; rfl
  · refine ⟨?_, Nat.le_refl _, Nat.le_refl _, ?_, ?_, fun a c9 h9 => ⟨c9, h9, rfl, rfl, fun _ _ => rfl⟩⟩
    · obtain ⟨t, ht, -⟩ := State.frames_cons hr
      show T.setVm s.vm = { ((T.setVm s.vm).setFrames (.invoking m args :: below)).setFrames (T.setVm s.vm).frames with heap := T.heap, slotsUsed := T.slotsUsed }
      rw [State.setFrames_setFrames, State.setFrames_self ht]
      rfl
    · show T.slotsUsed = T.slotsUsed + ((T.heap.toList.drop T.heap.size).map (·.slots.size)).sum
      rw [List.drop_eq_nil_of_le (Nat.le_of_eq Array.length_toList)]
      rfl
    · show ((T.heap.toList.drop T.heap.size).map (·.slots.size)).sum ≤ 0
      rw [List.drop_eq_nil_of_le (Nat.le_of_eq Array.length_toList)]
      exact Nat.le_refl _
/-- 'throw new E()': new; dup; invokespecial; athrow -/
theorem vx_throw0 {cc : ByteArray} {pc : Nat} (hexec : p.tables.exec = Jvm.exec) (hb : c.code = cc) (hl : l.stackTraces = false) {own cls : String} {names : List String} {ik ic mc ms : Nat} {A : Nat → Prop}
    (hown : s.vm.findClass own = some m.cls) (hcls : Bundle.fit cls = true) (hnames : ∀ n ∈ names, Bundle.fit n = true)
    (hk : (Cond.classLink own ik cls).before args s = true) (hini : (Cond.initialized cls).before args s = true) (hat : ∀ w ∈ vx_at0 own ic cls names, w.before args s = true)
    (hgood : ∀ w ∈ Cond.classLink own ik cls :: Cond.initialized cls :: vx_at0 own ic cls names, vx_ot w = true)
    (hU : vx_Zq Bundle.tN "UNASSIGNED_STACK" Bundle.steD A s s.heap) (hN : vx_Zq Bundle.tN "SUPPRESSED_SENTINEL" Bundle.listD A s s.heap) (hS : va_S A s.heap H locs) (hsize : ls.size = c.maxLocals)
    (d0 : decode cc pc = .ok (.new ik, 3)) (d3 : decode cc (pc + 3) = .ok (.dup, 1)) (d4 : decode cc (pc + 4) = .ok (.invokespecial ic, 3)) (d7 : decode cc (pc + 7) = .ok (.athrow, 1))
    (hout : ∀ x ∈ c.exceptionTable.toList, covers x (pc + 7) = false)
    (hRframes : names.length + 3 < R.frames) (hRlocals : (rest.map fun v => v.category).sum + (13 * (names.length + 1) + 42) ≤ R.locals) (hRcells : cells + 1 ≤ R.cells) (hRslots : slots + 6 ≤ R.slots) (hlocks : meth.locks = false)
    (hx : ∀ t : State, s.vm.Alike t.vm → H.size ≤ t.heap.size → (∀ q : Nat, q < H.size → t.heap[q]? = H[q]?) → XC cls s t)
    (hf : ∀ z ∈ locs, free z.base) (hc : cells + 1 ≤ mc) (hs : slots + 6 ≤ ms) :
    W p l e R s m args below meth c H locs cells slots (vx_MQ below Qc XC args s mc ms free) (F0 m pc ls rest) := by
  intro T hT X
  have htr : e.platform.stackTraces = false := (show e.platform.stackTraces = l.stackTraces by rw [X.admits.platform]).trans hl
  have Y := vx_rebase X (R' := { frames := R.frames, locals := R.locals, cells := 1, slots := 6 }) (Nat.le_refl _) (Nat.le_refl _) hRcells hRslots
  obtain ⟨s', hA⟩ : ∃ z, z = (T.setVm s.vm).setFrames (.invoking m args :: below) := ⟨_, rfl⟩
  rw [← hA] at Y
  have hvm : s'.vm = s.vm := by rw [hA]; rfl
  have hhp : s'.heap = H := by rw [hA]; exact hT
  have hW0 : s.WarmedH s'.vm := by rw [hvm]; exact State.WarmedH.refl s
  have hat' : ∀ w ∈ vx_at0 own ic cls names, w.before args s' = true := fun w hw => vx_ot_at hW0 hvm.symm (hgood w (List.mem_cons_of_mem _ (List.mem_cons_of_mem _ hw))) (hat w hw)
  have hk' : (Cond.classLink own ik cls).before args s' = true := vx_ot_at hW0 hvm.symm (hgood _ List.mem_cons_self) hk
  have hini' : (Cond.initialized cls).before args s' = true := vx_ot_at hW0 hvm.symm (hgood _ (List.mem_cons_of_mem _ List.mem_cons_self)) hini
  have hU' : vx_Zq Bundle.tN "UNASSIGNED_STACK" Bundle.steD A s' s'.heap := by rw [hhp]; exact vx_Zq.moved hW0.alike (hU.kept hS.2.1)
  have hN' : vx_Zq Bundle.tN "SUPPRESSED_SENTINEL" Bundle.listD A s' s'.heap := by rw [hhp]; exact vx_Zq.moved hW0.alike (hN.kept hS.2.1)
  have h : ∀ w ∈ Bundle.ownAtoms0 own ic cls names, w.before args s' = true := vx_own hat' (vx_isRefq hU'.1) (vx_isRefq hN'.1) hU'.2.word hN'.2.word
  have hown' : s'.vm.findClass own = some m.cls := by rw [hvm]; exact hown
  have hins : (Cond.instantiable cls 6).before args s' = true := h _ (by simp [Bundle.ownAtoms0])
  obtain ⟨vm₁, cX, kX, hfX, hkX, -, -, X₁, st1⟩ := Y.newCold hexec (own := own) (C := cls) (index := ik) (n := 6) hown' hk' hins hini'
    (g := F0 m pc ls rest) rfl (by rw [hb]; exact d0) (Nat.le_refl _) (Nat.le_refl _)
  generalize hT1 : (T.setVm vm₁).pushCell { cls := cX, slots := kX.instanceTypes.map defaultValue, vm := .none } = T1 at X₁ st1
  have hcat : (Value.ref T.heap.size).category = 1 := rfl
  have hcellA : T1.heap[T.heap.size]? = some (freshCell cX kX) := by rw [← hT1]; exact State.heap_pushCell_size _ _
  have d3' : decode c.code (pc + 3) = .ok (.dup, 1) := by rw [hb]; exact d3
  obtain ⟨U, hsteps, hrun, hend, hW, hsame, ce, hce, hO⟩ := X₁.ctorThrow0 hexec htr (own := own) (cls := cls) (names := names) (ic := ic) hown' hcls hnames h (fun x hx => nomatch hx) hfX hkX hcellA (by rw [hhp, hT]; exact Nat.le_refl _)
    (g := { method := m, pc := pc + 4, locals := ls, stack := .ref T.heap.size :: .ref T.heap.size :: rest, locked := none }) rfl hsize rfl rfl (rest := rest) rfl
    (by rw [hb]; exact d4) (by rw [hb]; exact d7) hout hRframes (by simp only [List.map_cons, List.sum_cons, hcat]; omega) hlocks
  obtain ⟨f1, f2⟩ := vx_frame hsame
  rw [hhp] at f1 f2
  have hWs : s.WarmedH U.vm := State.WarmedH.trans hW0 hW
  have hcl : s.vm.findClass cls = some ce.cls := by
    have h9 := hO.cls
    rw [hvm] at h9
    exact h9
  have hall : s.sameButNew ({ U with vm := s.vm } : State) locs mc ms := by
    subst hA
    obtain ⟨e1, e2⟩ := hsame
    rw [State.setFrames_setFrames] at e1
    have h2 : (T.setVm s.vm).sameButNew ({ U with vm := s.vm } : State) [] (0 + 1) (0 + 6) := ⟨e1, e2⟩
    have h3 := X.same.trans h2
    rw [List.append_nil] at h3
    exact h3.mono hc hs
  refine ⟨U, ?_, .threw T.heap.size, hrun, hend, Or.inr ⟨T.heap.size, rfl, cls, ce, locs, hx U hWs.alike f1 (fun q hq => f2 q hq (fun z hz => nomatch hz)), hce, hO.vm, hcl, hWs, hall, hf⟩⟩
  refine st1 _ ?_
  show Steps p.tables e below (T1.setTop { method := m, pc := pc + 3, locals := ls, stack := .ref T.heap.size :: rest, locked := none }) _
  jvm_step X₁.here [X₁.here.top, hexec, d3', Value.category]
  exact hsteps
/-- 'throw new E("text")': new; dup; ldc; invokespecial; athrow -/
theorem vx_throwS {cc : ByteArray} {pc : Nat} (hexec : p.tables.exec = Jvm.exec) (hb : c.code = cc) (hl : l.stackTraces = false) {own cls text : String} {names : List String} {ik is ic mc ms sa : Nat} {A : Nat → Prop}
    (hown : s.vm.findClass own = some m.cls) (hcls : Bundle.fit cls = true) (hnames : ∀ n ∈ names, Bundle.fit n = true)
    (hk : (Cond.classLink own ik cls).before args s = true) (hini : (Cond.initialized cls).before args s = true) (hstr : vk_R own is text sa s) (hat : ∀ w ∈ vx_atS own ic cls names, w.before args s = true)
    (hgood : ∀ w ∈ Cond.classLink own ik cls :: Cond.initialized cls :: vx_atS own ic cls names, vx_ot w = true)
    (hU : vx_Zq Bundle.tN "UNASSIGNED_STACK" Bundle.steD A s s.heap) (hN : vx_Zq Bundle.tN "SUPPRESSED_SENTINEL" Bundle.listD A s s.heap) (hS : va_S A s.heap H locs) (hsize : ls.size = c.maxLocals)
    (d0 : decode cc pc = .ok (.new ik, 3)) (d3 : decode cc (pc + 3) = .ok (.dup, 1)) (d4 : decode cc (pc + 4) = .ok (.ldc is, 2)) (d6 : decode cc (pc + 6) = .ok (.invokespecial ic, 3)) (d9 : decode cc (pc + 9) = .ok (.athrow, 1))
    (hout : ∀ x ∈ c.exceptionTable.toList, covers x (pc + 9) = false)
    (hRframes : names.length + 3 < R.frames) (hRlocals : (rest.map fun v => v.category).sum + (13 * (names.length + 1) + 43) ≤ R.locals) (hRcells : cells + 1 ≤ R.cells) (hRslots : slots + 6 ≤ R.slots) (hlocks : meth.locks = false)
    (hx : ∀ t : State, s.vm.Alike t.vm → H.size ≤ t.heap.size → (∀ q : Nat, q < H.size → t.heap[q]? = H[q]?) → XC cls s t)
    (hf : ∀ z ∈ locs, free z.base) (hc : cells + 1 ≤ mc) (hs : slots + 6 ≤ ms) :
    W p l e R s m args below meth c H locs cells slots (vx_MQ below Qc XC args s mc ms free) (F0 m pc ls rest) := by
  intro T hT X
  have htr : e.platform.stackTraces = false := (show e.platform.stackTraces = l.stackTraces by rw [X.admits.platform]).trans hl
  have Y := vx_rebase X (R' := { frames := R.frames, locals := R.locals, cells := 1, slots := 6 }) (Nat.le_refl _) (Nat.le_refl _) hRcells hRslots
  obtain ⟨s', hA⟩ : ∃ z, z = (T.setVm s.vm).setFrames (.invoking m args :: below) := ⟨_, rfl⟩
  rw [← hA] at Y
  have hvm : s'.vm = s.vm := by rw [hA]; rfl
  have hhp : s'.heap = H := by rw [hA]; exact hT
  have hW0 : s.WarmedH s'.vm := by rw [hvm]; exact State.WarmedH.refl s
  have hat' : ∀ w ∈ vx_atS own ic cls names, w.before args s' = true := fun w hw => vx_ot_at hW0 hvm.symm (hgood w (List.mem_cons_of_mem _ (List.mem_cons_of_mem _ hw))) (hat w hw)
  have hk' : (Cond.classLink own ik cls).before args s' = true := vx_ot_at hW0 hvm.symm (hgood _ List.mem_cons_self) hk
  have hini' : (Cond.initialized cls).before args s' = true := vx_ot_at hW0 hvm.symm (hgood _ (List.mem_cons_of_mem _ List.mem_cons_self)) hini
  have hU' : vx_Zq Bundle.tN "UNASSIGNED_STACK" Bundle.steD A s' s'.heap := by rw [hhp]; exact vx_Zq.moved hW0.alike (hU.kept hS.2.1)
  have hN' : vx_Zq Bundle.tN "SUPPRESSED_SENTINEL" Bundle.listD A s' s'.heap := by rw [hhp]; exact vx_Zq.moved hW0.alike (hN.kept hS.2.1)
  have h : ∀ w ∈ Bundle.ownAtoms own ic cls names, w.before args s' = true := vx_own hat' (vx_isRefq hU'.1) (vx_isRefq hN'.1) hU'.2.word hN'.2.word
  have hown' : s'.vm.findClass own = some m.cls := by rw [hvm]; exact hown
  have hins : (Cond.instantiable cls 6).before args s' = true := h _ (by simp [Bundle.ownAtoms])
  obtain ⟨vm₁, cX, kX, hfX, hkX, -, -, X₁, st1⟩ := Y.newCold hexec (own := own) (C := cls) (index := ik) (n := 6) hown' hk' hins hini'
    (g := F0 m pc ls rest) rfl (by rw [hb]; exact d0) (Nat.le_refl _) (Nat.le_refl _)
  generalize hT1 : (T.setVm vm₁).pushCell { cls := cX, slots := kX.instanceTypes.map defaultValue, vm := .none } = T1 at X₁ st1
  have hcat : (Value.ref T.heap.size).category = 1 := rfl
  have hcellA : T1.heap[T.heap.size]? = some (freshCell cX kX) := by rw [← hT1]; exact State.heap_pushCell_size _ _
  have d3' : decode c.code (pc + 3) = .ok (.dup, 1) := by rw [hb]; exact d3
  have d4' : decode c.code (pc + 4) = .ok (.ldc is, 2) := by rw [hb]; exact d4
  have hstr' : vk_R own is text sa s' := vk_R.warm hW0 hstr
  obtain ⟨U, hsteps, hrun, hend, hW, hsame, ce, hce, hO⟩ := X₁.ctorThrowS hexec htr (own := own) (cls := cls) (names := names) (ic := ic) hown' hcls hnames h (fun x hx => nomatch hx) hfX hkX hcellA (by rw [hhp, hT]; exact Nat.le_refl _) (msg := .ref sa) rfl
    (g := { method := m, pc := pc + 6, locals := ls, stack := .ref sa :: .ref T.heap.size :: .ref T.heap.size :: rest, locked := none }) rfl hsize rfl rfl (rest := rest) rfl
    (by rw [hb]; exact d6) (by rw [hb]; exact d9) hout hRframes (by simp only [List.map_cons, List.sum_cons, hcat]; omega) hlocks
  obtain ⟨f1, f2⟩ := vx_frame hsame
  rw [hhp] at f1 f2
  have hWs : s.WarmedH U.vm := State.WarmedH.trans hW0 hW
  have hcl : s.vm.findClass cls = some ce.cls := by
    have h9 := hO.cls
    rw [hvm] at h9
    exact h9
  have hall : s.sameButNew ({ U with vm := s.vm } : State) locs mc ms := by
    subst hA
    obtain ⟨e1, e2⟩ := hsame
    rw [State.setFrames_setFrames] at e1
    have h2 : (T.setVm s.vm).sameButNew ({ U with vm := s.vm } : State) [] (0 + 1) (0 + 6) := ⟨e1, e2⟩
    have h3 := X.same.trans h2
    rw [List.append_nil] at h3
    exact h3.mono hc hs
  refine ⟨U, ?_, .threw T.heap.size, hrun, hend, Or.inr ⟨T.heap.size, rfl, cls, ce, locs, hx U hWs.alike f1 (fun q hq => f2 q hq (fun z hz => nomatch hz)), hce, hO.vm, hcl, hWs, hall, hf⟩⟩
  refine st1 _ ?_
  show Steps p.tables e below (T1.setTop { method := m, pc := pc + 3, locals := ls, stack := .ref T.heap.size :: rest, locked := none }) _
  jvm_step X₁.here [X₁.here.top, hexec, d3', Value.category]
  exact X₁.ldcString hexec (own := own) (text := text) (index := is) (a := sa) hown' hstr'.1 hstr'.2
    (g := { method := m, pc := pc + 4, locals := ls, stack := .ref T.heap.size :: .ref T.heap.size :: rest, locked := none }) rfl d4' _ hsteps
/-- 'throw new E("text")', the text by a wide index -/
theorem vx_throwSW {cc : ByteArray} {pc : Nat} (hexec : p.tables.exec = Jvm.exec) (hb : c.code = cc) (hl : l.stackTraces = false) {own cls text : String} {names : List String} {ik is ic mc ms sa : Nat} {A : Nat → Prop}
    (hown : s.vm.findClass own = some m.cls) (hcls : Bundle.fit cls = true) (hnames : ∀ n ∈ names, Bundle.fit n = true)
    (hk : (Cond.classLink own ik cls).before args s = true) (hini : (Cond.initialized cls).before args s = true) (hstr : vk_R own is text sa s) (hat : ∀ w ∈ vx_atS own ic cls names, w.before args s = true)
    (hgood : ∀ w ∈ Cond.classLink own ik cls :: Cond.initialized cls :: vx_atS own ic cls names, vx_ot w = true)
    (hU : vx_Zq Bundle.tN "UNASSIGNED_STACK" Bundle.steD A s s.heap) (hN : vx_Zq Bundle.tN "SUPPRESSED_SENTINEL" Bundle.listD A s s.heap) (hS : va_S A s.heap H locs) (hsize : ls.size = c.maxLocals)
    (d0 : decode cc pc = .ok (.new ik, 3)) (d3 : decode cc (pc + 3) = .ok (.dup, 1)) (d4 : decode cc (pc + 4) = .ok (.ldc_w is, 3)) (d7 : decode cc (pc + 7) = .ok (.invokespecial ic, 3)) (d10 : decode cc (pc + 10) = .ok (.athrow, 1))
    (hout : ∀ x ∈ c.exceptionTable.toList, covers x (pc + 10) = false)
    (hRframes : names.length + 3 < R.frames) (hRlocals : (rest.map fun v => v.category).sum + (13 * (names.length + 1) + 43) ≤ R.locals) (hRcells : cells + 1 ≤ R.cells) (hRslots : slots + 6 ≤ R.slots) (hlocks : meth.locks = false)
    (hx : ∀ t : State, s.vm.Alike t.vm → H.size ≤ t.heap.size → (∀ q : Nat, q < H.size → t.heap[q]? = H[q]?) → XC cls s t)
    (hf : ∀ z ∈ locs, free z.base) (hc : cells + 1 ≤ mc) (hs : slots + 6 ≤ ms) :
    W p l e R s m args below meth c H locs cells slots (vx_MQ below Qc XC args s mc ms free) (F0 m pc ls rest) := by
  intro T hT X
  have htr : e.platform.stackTraces = false := (show e.platform.stackTraces = l.stackTraces by rw [X.admits.platform]).trans hl
  have Y := vx_rebase X (R' := { frames := R.frames, locals := R.locals, cells := 1, slots := 6 }) (Nat.le_refl _) (Nat.le_refl _) hRcells hRslots
  obtain ⟨s', hA⟩ : ∃ z, z = (T.setVm s.vm).setFrames (.invoking m args :: below) := ⟨_, rfl⟩
  rw [← hA] at Y
  have hvm : s'.vm = s.vm := by rw [hA]; rfl
  have hhp : s'.heap = H := by rw [hA]; exact hT
  have hW0 : s.WarmedH s'.vm := by rw [hvm]; exact State.WarmedH.refl s
  have hat' : ∀ w ∈ vx_atS own ic cls names, w.before args s' = true := fun w hw => vx_ot_at hW0 hvm.symm (hgood w (List.mem_cons_of_mem _ (List.mem_cons_of_mem _ hw))) (hat w hw)
  have hk' : (Cond.classLink own ik cls).before args s' = true := vx_ot_at hW0 hvm.symm (hgood _ List.mem_cons_self) hk
  have hini' : (Cond.initialized cls).before args s' = true := vx_ot_at hW0 hvm.symm (hgood _ (List.mem_cons_of_mem _ List.mem_cons_self)) hini
  have hU' : vx_Zq Bundle.tN "UNASSIGNED_STACK" Bundle.steD A s' s'.heap := by rw [hhp]; exact vx_Zq.moved hW0.alike (hU.kept hS.2.1)
  have hN' : vx_Zq Bundle.tN "SUPPRESSED_SENTINEL" Bundle.listD A s' s'.heap := by rw [hhp]; exact vx_Zq.moved hW0.alike (hN.kept hS.2.1)
  have h : ∀ w ∈ Bundle.ownAtoms own ic cls names, w.before args s' = true := vx_own hat' (vx_isRefq hU'.1) (vx_isRefq hN'.1) hU'.2.word hN'.2.word
  have hown' : s'.vm.findClass own = some m.cls := by rw [hvm]; exact hown
  have hins : (Cond.instantiable cls 6).before args s' = true := h _ (by simp [Bundle.ownAtoms])
  obtain ⟨vm₁, cX, kX, hfX, hkX, -, -, X₁, st1⟩ := Y.newCold hexec (own := own) (C := cls) (index := ik) (n := 6) hown' hk' hins hini'
    (g := F0 m pc ls rest) rfl (by rw [hb]; exact d0) (Nat.le_refl _) (Nat.le_refl _)
  generalize hT1 : (T.setVm vm₁).pushCell { cls := cX, slots := kX.instanceTypes.map defaultValue, vm := .none } = T1 at X₁ st1
  have hcat : (Value.ref T.heap.size).category = 1 := rfl
  have hcellA : T1.heap[T.heap.size]? = some (freshCell cX kX) := by rw [← hT1]; exact State.heap_pushCell_size _ _
  have d3' : decode c.code (pc + 3) = .ok (.dup, 1) := by rw [hb]; exact d3
  have d4' : decode c.code (pc + 4) = .ok (.ldc_w is, 3) := by rw [hb]; exact d4
  have hstr' : vk_R own is text sa s' := vk_R.warm hW0 hstr
  obtain ⟨U, hsteps, hrun, hend, hW, hsame, ce, hce, hO⟩ := X₁.ctorThrowS hexec htr (own := own) (cls := cls) (names := names) (ic := ic) hown' hcls hnames h (fun x hx => nomatch hx) hfX hkX hcellA (by rw [hhp, hT]; exact Nat.le_refl _) (msg := .ref sa) rfl
    (g := { method := m, pc := pc + 7, locals := ls, stack := .ref sa :: .ref T.heap.size :: .ref T.heap.size :: rest, locked := none }) rfl hsize rfl rfl (rest := rest) rfl
    (by rw [hb]; exact d7) (by rw [hb]; exact d10) hout hRframes (by simp only [List.map_cons, List.sum_cons, hcat]; omega) hlocks
  obtain ⟨f1, f2⟩ := vx_frame hsame
  rw [hhp] at f1 f2
  have hWs : s.WarmedH U.vm := State.WarmedH.trans hW0 hW
  have hcl : s.vm.findClass cls = some ce.cls := by
    have h9 := hO.cls
    rw [hvm] at h9
    exact h9
  have hall : s.sameButNew ({ U with vm := s.vm } : State) locs mc ms := by
    subst hA
    obtain ⟨e1, e2⟩ := hsame
    rw [State.setFrames_setFrames] at e1
    have h2 : (T.setVm s.vm).sameButNew ({ U with vm := s.vm } : State) [] (0 + 1) (0 + 6) := ⟨e1, e2⟩
    have h3 := X.same.trans h2
    rw [List.append_nil] at h3
    exact h3.mono hc hs
  refine ⟨U, ?_, .threw T.heap.size, hrun, hend, Or.inr ⟨T.heap.size, rfl, cls, ce, locs, hx U hWs.alike f1 (fun q hq => f2 q hq (fun z hz => nomatch hz)), hce, hO.vm, hcl, hWs, hall, hf⟩⟩
  refine st1 _ ?_
  show Steps p.tables e below (T1.setTop { method := m, pc := pc + 3, locals := ls, stack := .ref T.heap.size :: rest, locked := none }) _
  jvm_step X₁.here [X₁.here.top, hexec, d3', Value.category]
  exact X₁.ldcStringW hexec (own := own) (text := text) (index := is) (a := sa) hown' hstr'.1 hstr'.2
    (g := { method := m, pc := pc + 4, locals := ls, stack := .ref T.heap.size :: .ref T.heap.size :: rest, locked := none }) rfl d4' _ hsteps
end Ends
section Bodies
variable {l : Launch}
theorem vx_ofW {y : MethodName} {ws ws' : List Cond} {rm : Room} {Pc : Array Value → State → Prop} {Qc : Array Value → State → Outcome → State → Prop} {XC : String → State → State → Prop} {mc ms : Nat} {free : Addr → Prop} {cc : ByteArray} {maxL : Nat} {ret : Option FieldType}
    (hy : plainName y.cls = true) (hw : ws = Cond.code y cc maxL ret :: ws')
    (body : ∀ p e s m args below meth c s₁, BodyLoose p l y (headSpec ws rm) cc maxL ret e s m args below meth c s₁ → c.maxLocals = maxL → (∀ x ∈ c.exceptionTable.toList, False) → Pc args s →
      W p l e (headSpec ws rm).room s m args below meth c s.heap [] 0 0 (vx_MQ below Qc XC args s mc ms free) (entryFrame m args maxL)) : vx_Met l y ws rm Pc Qc XC mc ms free := by
  refine MetFree.of_bodyS (code := cc) (maxLocals := maxL) (ret := ret) hy ?_ ?_
  · intro args s m h hn
    obtain ⟨meth, c, h1, h2, h3, h4, h5, h6, -, -⟩ := Cond.code_spec hn (atoms_spec (ws := ws) h _ (by rw [hw]; exact List.mem_cons_self))
    exact ⟨meth, c, h1, h2, h3, h4, h5, h6⟩
  · intro p e s m args below meth c s₁ B hml hP _
    have hh0 : s₁.heap = s.heap := by rw [B.state]; rfl
    have ht : ∀ x ∈ c.exceptionTable.toList, False := by
      obtain ⟨meth9, c9, h1, h2, -, -, -, -, h7, -⟩ := Cond.code_spec B.named (atoms_spec (ws := ws) B.pre _ (by rw [hw]; exact List.mem_cons_self))
      cases Option.some.inj (h1.symm.trans B.method)
      cases Option.some.inj (h2.symm.trans (Stand.of_body B).code)
      intro x hx
      rw [Array.isEmpty_iff.mp h7] at hx
      cases hx
    obtain ⟨t, a1, o, b1, b2, b3⟩ := body p e s m args below meth c s₁ B hml ht hP s₁ hh0 (Stand.of_body B)
    exact ⟨t, o, a1, b1, b2, b3⟩
/-- the table of a body with handlers -/
theorem vx_table {p : Program} {x y : MethodName} {S : Spec} {cc bytes : ByteArray} {maxL maxL' : Nat} {ret ret' : Option FieldType} {e : Env} {s s₁ : State} {m : MethodId} {args : Array Value} {below : List Frame} {meth : Method} {c : Code} {hh : List (Nat × Nat × Nat × Nat)}
    (B : BodyLoose p l y S cc maxL ret e s m args below meth c s₁) (h : (Cond.codeWith y bytes maxL' ret' hh).before args s = true) : c.exceptionTable.toList = tableOf hh := by
  obtain ⟨m9, meth9, c9, hn9, h1, h2, -, -, h6, -⟩ := Cond.codeWith_spec h
  cases Option.some.inj (hn9.symm.trans B.named)
  cases Option.some.inj (h1.symm.trans B.method)
  cases Option.some.inj (h2.symm.trans (Stand.of_body B).code)
  rw [← h6, table_eq]
end Bodies
end VXA
/-! ===== END ===== -/
/-! ===== BEGIN a static call of a method with an exception table ===== -/
section VXS
variable {p : Program} {l : Launch} {e : Env} {R : Room} {s : State} {m : MethodId} {args : Array Value} {below : List Frame} {meth : Method} {c : Code} {T : State} {H : Heap} {locs : List Loc} {cells slots : Nat}
abbrev vx_CSW (R : Room) (s : State) (args : Array Value) (own : String) (index : Nat) (y : MethodName) (bytes : ByteArray) (maxL : Nat) (ret : Option FieldType) (hh : List (Nat × Nat × Nat × Nat)) (ws : List Cond) (rm : Room) (mc ms n : Nat) : Prop :=
  (rm.cells = mc ∧ rm.slots = ms ∧ rm.frames + 1 ≤ R.frames ∧ 8 + (maxL + 11) + rm.locals ≤ R.locals ∧ (∀ w ∈ ws, ∀ (a' : Array Value) (U : State), s.WarmedH U.vm → w.before a' U = true) ∧ Cond.codeWith y bytes maxL ret hh ∈ ws) ∧
  (Cond.codeWith y bytes maxL ret hh).before args s = true ∧ (Cond.initialized y.cls).before args s = true ∧ (y.cls ≠ "java/lang/invoke/MethodHandle" ∧ y.cls ≠ "java/lang/invoke/VarHandle") ∧
  (∀ sig, parseMethodDescriptor y.desc = some sig → n = sig.parameters.length) ∧ (Cond.methodLink own index y).before args s = true ∧ (Cond.static y).before args s = true
theorem vx_cwSW {own : String} {index maxL mc ms : Nat} {y : MethodName} {bytes : ByteArray} {ret : Option FieldType} {hh : List (Nat × Nat × Nat × Nat)} {Ts ws ws' : List Cond} {rm : Room} (n : Nat) (ht : ∀ w ∈ Ts, w.before args s = true) (hT : GoodIn Ts (va_wsS own index y ws)) (hw : ws = Cond.codeWith y bytes maxL ret hh :: ws') (hrc : rm.cells = mc) (hrs : rm.slots = ms)
    (hd : y.cls ≠ "java/lang/invoke/MethodHandle" ∧ y.cls ≠ "java/lang/invoke/VarHandle" ∧ (parseMethodDescriptor y.desc).map (fun d => d.parameters.length) = some n) (hR : rm.frames + 1 ≤ R.frames ∧ 8 + (maxL + 11) + rm.locals ≤ R.locals) :
    vx_CSW R s args own index y bytes maxL ret hh ws rm mc ms n := by
  have ok : ∀ w ∈ va_wsS own index y ws, w.before args s = true := fun w h => ht w (hT w h).1
  have hG : GoodIn Ts ws := fun w h => hT w (by unfold va_wsS; exact List.mem_append_right _ h)
  have hc : Cond.codeWith y bytes maxL ret hh ∈ ws := by rw [hw]; exact List.mem_cons_self
  refine ⟨⟨hrc, hrs, hR.1, hR.2, pay_in ht hG, hc⟩, ht _ (hG _ hc).1, ok _ (by simp [va_wsS]), ⟨hd.1, hd.2.1⟩, fun sig h => ?_, ok _ (by simp [va_wsS]), ok _ (by simp [va_wsS])⟩
  have h2 := hd.2.2
  rw [h] at h2
  exact (Option.some.inj h2).symm
theorem vx_callSW (X : Stand p l e R s m args below meth c T locs cells slots) (hexec : p.tables.exec = Jvm.exec) {own : String} {index : Nat} {y : MethodName} {bytes : ByteArray} {maxL : Nat} {ret : Option FieldType} {hh : List (Nat × Nat × Nat × Nat)}
    (hown : s.vm.findClass own = some m.cls) (hlink : (Cond.methodLink own index y).before args s = true) (hstat : (Cond.static y).before args s = true) (hinit : (Cond.initialized y.cls).before args s = true)
    (hcode : (Cond.codeWith y bytes maxL ret hh).before args s = true) (hy : y.cls ≠ "java/lang/invoke/MethodHandle" ∧ y.cls ≠ "java/lang/invoke/VarHandle")
    {W9 : Nat} {Pre : Pt → Array Value → Prop} {Post : Pt → Array Value → Option Value → Pt → Prop} (hK : Back l R p e below s args y 3 W9 Pre Post)
    {g : JFrame} (hg : g.method = m) (hsize : g.locals.size = c.maxLocals) {argsL rest : List Value} (hlen : ∀ sig, parseMethodDescriptor y.desc = some sig → argsL.length = sig.parameters.length)
    (hstack : g.stack = argsL.reverse ++ rest) (hW : 2 * g.monitorRoom + (rest.map fun v => v.category).sum ≤ W9) (hdg : decode c.code g.pc = .ok (.invokestatic index, 3))
    (hpre : ∀ vm₁, s.WarmedH vm₁ → Pre ⟨T.setVm vm₁, locs, cells, slots⟩ argsL.toArray) :
    ∃ (v : Option Value) (vm₁ : Vm) (B : Pt), s.WarmedH vm₁ ∧ Stand p l e R s m args below meth c B.U B.locs B.cells B.slots ∧ Post ⟨T.setVm vm₁, locs, cells, slots⟩ argsL.toArray v B ∧
      ∀ target, Steps p.tables e below (B.U.setTop { g with pc := g.pc + 3, stack := v.toList ++ rest }) target → Steps p.tables e below (T.setTop g) target := by
  obtain ⟨mk, methM, cM, hnamed, hmethM, -, -, -, -, -, -, hsigM⟩ := Cond.codeWith_spec hcode
  have hstatic : methM.isStatic = true := Cond.static_spec hnamed hmethM hstat
  obtain ⟨kP, hkP, -⟩ := className_of_methodNamed hnamed
  have hinitP : kP.init = .initialized := Cond.initialized_spec (findClass_of_methodNamed hnamed) hkP hinit
  obtain ⟨vm₁, X₁, hstep₁⟩ := X.invokestatic hexec hown hlink hnamed hmethM hstatic hkP hinitP hy (g := g) hg (argsL := argsL) (rest := rest) (hlen _ hsigM) hstack hdg
  obtain ⟨v, B, X', hpost, hsteps⟩ := hK m meth c ⟨T.setVm vm₁, locs, cells, slots⟩ { g with stack := rest } (.invokestatic index) mk argsL.toArray X₁ hg hsize hdg hW (X₁.named hnamed) (hpre vm₁ X₁.warmed)
  exact ⟨v, vm₁, B, X₁.warmed, X', hpost, fun target h => hstep₁ _ fun acts => by rw [doInvoke_state]; exact hsteps.trans h⟩
theorem vx_runSW {y : MethodName} {bytes cc : ByteArray} {maxL nL mc ms n index : Nat} {ret : Option FieldType} {hh : List (Nat × Nat × Nat × Nat)} {ws : List Cond} {rm : Room} {Pc : Array Value → State → Prop} {Qc : Array Value → State → Outcome → State → Prop} {free : Addr → Prop} {Ts : List Cond} {own : String} {As rest : List Value} {g : JFrame}
    (S : CallFix p m c cc nL s args Ts own) (hM : Met l y ws rm Pc Qc mc ms free) (cw : vx_CSW R s args own index y bytes maxL ret hh ws rm mc ms n) (hp : PreS s H Pc As)
    (hg : g.method = m) (hn : As.length = n) (hsize : g.locals.size = nL) (hstack : g.stack = As.reverse ++ rest) (hW : 2 * g.monitorRoom + (rest.map fun v => v.category).sum ≤ 8) (hdg : decode cc g.pc = .ok (.invokestatic index, 3)) (hf : cells + mc ≤ R.cells ∧ slots + ms ≤ R.slots) :
    va_Run p l e R s m args below meth c H locs cells slots mc ms g rest (Qc As.toArray) (free) := by
  obtain ⟨⟨hrc, hrs, hfr, hlo, hws, hcw⟩, hcode, hini, hy, hlen, hl, hstt⟩ := cw
  have hK : Back l R p e below s args y 3 8 (PreOf R mc ms Pc) (PostOf Qc mc ms free) := va_backW (hh := hh) (bytes := bytes) (maxL := maxL) (ret := ret) hM hp.1 hrc hrs hfr hlo hws hcw (fun a' U hW => word_at hW (Or.inl (by first | rfl | simp [Cond.onTables, Cond.keeps, Cond.steady])) hini)
  obtain ⟨hx, hb, hml, ho, -⟩ := S
  intro T hT X
  obtain ⟨v, vm₁, ⟨U', l2, c2, s2⟩, hW₁, X', ⟨g', mk, t, L, e1, e2, hq, h1, hL, h2, h3⟩, st⟩ := vx_callSW X hx (hh := hh) (bytes := bytes) (maxL := maxL) (ret := ret) ho hl hstt hini hcode hy hK hg (hsize.trans hml.symm) (argsL := As) (rest := rest) (fun sig h => hn.trans (hlen sig h)) hstack hW (by rw [hb]; exact hdg)
    (fun vm₁ hW₁ => ⟨hf.1, hf.2, hp.2 (T.setVm vm₁) hT hW₁⟩)
  dsimp only [Pt.U, Pt.locs, Pt.cells, Pt.slots] at X' e1 e2 h1 h2 h3 st
  subst h1; subst h2; subst h3
  exact ⟨v, (T.setVm vm₁).calling g' mk As.toArray, t, U', L, hT, X', hL, e1, e2, hq, st⟩
/-- not caught here, past rows that name other classes: it goes on to the caller -/
theorem vx_outP {p : Program} {l : Launch} {e : Env} {R : Room} {s : State} {m : MethodId} {args : Array Value} {below : List Frame} {meth : Method} {c : Code} {H : Heap} {locs : List Loc} {cells slots : Nat} {free : Addr → Prop} {ls : Array Slot} {rest : List Value} {Qc : Array Value → State → Outcome → State → Prop} {XC : String → State → State → Prop}
    {pc : Nat} {own E : String} {ce : Cell} {q : Addr} {mc ms : Nat} (hown : s.vm.findClass own = some m.cls) (hlocks : meth.locks = false)
    (hpass : ∀ z ∈ c.exceptionTable.toList, covers z pc = false ∨ (z.catchType ≠ 0 ∧ ∃ nm : String, (Cond.classLink own z.catchType nm).before args s = true ∧ va_Nc E nm s)) (hcell : H[q]? = some ce) (hv : ce.vm = .none) (hcl : s.vm.findClass E = some ce.cls)
    (hx : ∀ t : State, t.heap = H → s.vm.Alike t.vm → XC E s t) (hf : ∀ z ∈ locs, free z.base) (hc : cells ≤ mc) (hs : slots ≤ ms) :
    vx_W p l e R s m args below meth c H locs cells slots (vx_MQ below Qc XC args s mc ms free) (F0 m pc ls rest) q := by
  intro T hT X
  have hpl : e.platform.magicAccessors = ({} : Platform).magicAccessors := by rw [X.admits.platform]
  obtain ⟨vm', hW', X', st⟩ := X.outThrough hlocks q (g := F0 m pc ls rest) rfl rfl rfl (cell := ce) (by rw [hT]; exact hcell) (by rw [hv]; rfl)
    (by obtain ⟨k9, h9, -⟩ := Vm.findClass_spec hcl; exact ⟨k9, h9⟩) (fun z hz => by
      rcases hpass z hz with h | ⟨hz0, nm, hl1, hn1⟩
      · exact Or.inl h
      · obtain ⟨c6, hc6, hcl6⟩ := Cond.classLink_spec hown hl1 e.platform hpl
        obtain ⟨a8, b8, h1, h2, h3⟩ := hn1
        cases Option.some.inj (h1.symm.trans hcl)
        cases Option.some.inj (h2.symm.trans hc6)
        exact Or.inr ⟨hz0, _, hcl6, h3⟩)
  obtain ⟨g₀, hfr⟩ := X'.frames_eq
  have hcell9 : ((T.setVm vm').setFrames (.throwing q :: below)).heap[q]? = some ce := by
    show T.heap[q]? = some ce
    rw [hT]; exact hcell
  have hend : Ended ((T.setVm vm').setFrames (.throwing q :: below)) below (.threw q) := State.frames_setFrames _ (State.cur_lt_of_frames hfr)
  refine ⟨(T.setVm vm').setFrames (.throwing q :: below), ?_, .threw q, X'.here.running, hend, Or.inr ⟨q, rfl, E, ce, locs, hx _ hT (X'.ends _).1.alike, hcell9, hv, hcl, (X'.ends _).1, (X'.ends _).2.mono hc hs, hf⟩⟩
  rw [X.pushThrowing_eq]
  exact st
/-- a thing of a world lies in the heap -/
theorem vx_lt {D : va_G} {cl : List vw_C} {ws : va_W} {H1 : Heap} (h : va_P D cl ws H1) {k : Nat} {q : Nat × va_E} (hk : ws[k]? = some q) : q.1 < H1.size := (h k q hk).lt
end VXS
/-! ===== END ===== -/
/-! ===== BEGIN methods with a table of their own: called by a name, returning or throwing ===== -/
section VXH
/-! vx_backW, vx_callVX, vx_callSX, vx_callVW, vx_runVW, vx_runVX, vx_runSX, vx_ofWH follow the same proofs as their sisters above (Free/Laws.lean, Shelf42/LK1.lean); vx_outP calls Shelf42/NT130.lean (outThrough). -/
section
variable {l : Launch} {R : Room} {p : Program} {e : Env} {below : List Frame} {s : State} {sargs : Array Value} {y : MethodName} {len W9 : Nat}
theorem vx_backW {ws : List Cond} {rm : Room} {Pc : Array Value → State → Prop} {Qc : Array Value → State → Outcome → State → Prop} {XC : String → State → State → Prop} {mc ms : Nat} {free : Addr → Prop} {bytes : ByteArray} {maxL : Nat} {ret : Option FieldType} {hh : List (Nat × Nat × Nat × Nat)}
    (hM : vx_Met l y ws rm Pc Qc XC mc ms free) (hblind : FrameBlind Pc) (hrc : rm.cells = mc) (hrs : rm.slots = ms)
    (hframes : rm.frames + 1 ≤ R.frames) (hlocals : W9 + (maxL + 11) + rm.locals ≤ R.locals)
    (hws : ∀ w ∈ ws, ∀ a' U, s.WarmedH U.vm → w.before a' U = true) (hcode : Cond.codeWith y bytes maxL ret hh ∈ ws) (hinit : ∀ a' U, s.WarmedH U.vm → (Cond.initialized y.cls).before a' U = true) :
    vx_Back l R p e below s sargs y len W9 (PreOf R mc ms Pc) (PostOf Qc mc ms free) (vx_Post XC mc ms free) := by
  intro m meth c A g ig mk a X hg hsize hdg hW hn hp
  have h1 : (headSpec ws rm).pre.before a A.U = true := atoms_intro fun w hw => hws w hw _ _ X.warmed
  have h2 : (Cond.codeWith y bytes maxL ret hh).before a A.U = true := hws _ hcode _ _ X.warmed
  have h3 : (Cond.initialized y.cls).before a A.U = true := hinit _ _ X.warmed
  have h4 : A.cells + (headSpec ws rm).room.cells ≤ R.cells := by rw [show (headSpec ws rm).room.cells = mc from hrc]; exact hp.1
  have h5 : A.slots + (headSpec ws rm).room.slots ≤ R.slots := by rw [show (headSpec ws rm).room.slots = ms from hrs]; exact hp.2.1
  have hPc : Pc a (A.U.calling g mk a) := hblind _ _ _ _ hp.2.2
  obtain ⟨U, Ls, c0, s0⟩ := A
  dsimp only [Pt.U, Pt.locs, Pt.cells, Pt.slots] at h1 h2 h3 h4 h5 X hn hPc ⊢
  obtain ⟨m9, methY, cY, hn9, hmY, hcY, -, hlY, -⟩ := Cond.codeWith_spec h2
  cases Option.some.inj (hn9.symm.trans hn)
  obtain ⟨kY, hkY, -⟩ := className_of_methodNamed hn
  have hinitY : kY.init = .initialized := Cond.initialized_spec (findClass_of_methodNamed hn) hkY h3
  have h : At U g.method c below := by rw [hg]; exact X.here
  have hlocals9 : W9 + (maxL + 11) + (headSpec ws rm).room.locals ≤ R.locals := hlocals
  have happ : (headSpec ws rm).appliesLoose y e.platform (U.calling g mk a) = true :=
    Spec.appliesLoose_calling (g := g) h hdg hn hkY hinitY
      (X.room_calling (g := g) (R' := (headSpec ws rm).room) hsize hmY hcY hframes (by rw [hlY]; omega) h4 h5) h1
  obtain ⟨mid, hmid⟩ := h.above
  have hfr : (U.setTop g).frames = (.java g :: mid) ++ below := by rw [State.frames_setTop' g h.top, hmid]; rfl
  obtain ⟨o, s₂, hsteps, -, hend, hq⟩ := Steps.callFree hM p X.admits X.cas X.clock (acts := []) hfr happ hPc trivial
  have hq' : vx_Q Qc XC mc ms free a (U.calling g mk a) o s₂ := hq
  rw [State.frames_setTop' g h.top] at hend
  obtain ⟨g₀, hg0⟩ := Option.isSome_iff_exists.mp h.top
  obtain ⟨r, hr⟩ := State.topJava?_eq_some.mp hg0
  have hr' : (({ U with heap := s₂.heap, slotsUsed := s₂.slotsUsed } : State).setVm s₂.vm).frames = .java g₀ :: r := hr
  rcases hq' with ⟨hqc, L, hfe, hL⟩ | ⟨q, rfl, E, ce, L, hx, hce, hcv, hcl, hW₂, hsm, hL⟩
  · obtain ⟨⟨v, rfl⟩, hW₂, e2, q2, q3, q4, q5, q6⟩ := id hfe
    have e3 : s₂ = ({ (U.calling g mk a).setFrames s₂.frames with heap := s₂.heap, slotsUsed := s₂.slotsUsed } : State).setVm s₂.vm := by
      have : s₂ = ({ s₂ with vm := (U.calling g mk a).vm } : State).setVm s₂.vm := rfl
      rw [e2] at this
      exact this
    obtain ⟨c₂, i₂, len₂, hc₂, hd₂, hf₂⟩ := hend
    have hW' : U.WarmedH s₂.vm := hW₂
    have hcc : c₂ = c := by
      have h1 : s₂.code? g.method = U.code? g.method := by
        rw [State.code?_eq, State.code?_eq, hW'.alike.method?]
      exact Option.some.inj (hc₂.symm.trans (h1.trans h.code))
    subst hcc
    have hlen : len₂ = len := by rw [hdg] at hd₂; cases hd₂; rfl
    subst hlen
    have hs₂ : s₂ = (({ U with heap := s₂.heap, slotsUsed := s₂.slotsUsed } : State).setVm s₂.vm).setTop { g with pc := g.pc + len₂, stack := v.toList ++ g.stack } := by
      refine e3.trans ?_
      rw [hf₂, State.calling_eq h.top, State.setFrames_setFrames, State.setTop_of_frames _ hr', hr]
      rfl
    have hsame : U.sameButNew ({ U with heap := s₂.heap, slotsUsed := s₂.slotsUsed } : State) L mc ms := by
      refine ⟨?_, q2, q3, q4, q5, q6⟩
      obtain ⟨t, ht, -⟩ := State.frames_cons hr
      show ({ U with heap := s₂.heap, slotsUsed := s₂.slotsUsed } : State) = { U.setFrames U.frames with heap := s₂.heap, slotsUsed := s₂.slotsUsed }
      rw [State.setFrames_self ht]
    subst hg
    refine Or.inl ⟨v, ⟨(({ U with heap := s₂.heap, slotsUsed := s₂.slotsUsed } : State).setVm s₂.vm), Ls ++ L, c0 + mc, s0 + ms⟩,
      ⟨X.admits, X.cas, X.clock, X.frames, X.room, X.hears, X.method, X.code, (X.here.setHeapUsed s₂.heap s₂.slotsUsed).setVm hW'.alike, X.tail, State.WarmedH.trans X.warmed hW', X.limits, X.bytes, X.same.trans (hsame.setVm s.vm)⟩,
      ⟨g, mk, s₂, L, rfl, rfl, hqc, rfl, hL, rfl, rfl⟩, ?_⟩
    show Steps p.tables e below _ ((({ U with heap := s₂.heap, slotsUsed := s₂.slotsUsed } : State).setVm s₂.vm).setTop { g with pc := g.pc + len₂, stack := v.toList ++ g.stack })
    rw [← hs₂]
    exact hsteps
  · obtain ⟨e2, q2, q3, q4, q5, q6⟩ := id hsm
    have e3 : s₂ = ({ (U.calling g mk a).setFrames s₂.frames with heap := s₂.heap, slotsUsed := s₂.slotsUsed } : State).setVm s₂.vm := by
      have : s₂ = ({ s₂ with vm := (U.calling g mk a).vm } : State).setVm s₂.vm := rfl
      rw [e2] at this
      exact this
    have hf₂ : s₂.frames = .throwing q :: .java g :: U.frames.tail := hend
    have hW' : U.WarmedH s₂.vm := hW₂
    have hs₂ : s₂ = ((({ U with heap := s₂.heap, slotsUsed := s₂.slotsUsed } : State).setVm s₂.vm).setTop g).pushFrame (.throwing q) := by
      refine e3.trans ?_
      rw [hf₂, State.calling_eq h.top, State.setFrames_setFrames, State.pushFrame, State.frames_setTop _ hr', State.setTop_of_frames _ hr', State.setFrames_setFrames, hr]
      rfl
    have hsame : U.sameButNew ({ U with heap := s₂.heap, slotsUsed := s₂.slotsUsed } : State) L mc ms := by
      refine ⟨?_, q2, q3, q4, q5, q6⟩
      obtain ⟨t, ht, -⟩ := State.frames_cons hr
      show ({ U with heap := s₂.heap, slotsUsed := s₂.slotsUsed } : State) = { U.setFrames U.frames with heap := s₂.heap, slotsUsed := s₂.slotsUsed }
      rw [State.setFrames_self ht]
    subst hg
    refine Or.inr ⟨q, ⟨(({ U with heap := s₂.heap, slotsUsed := s₂.slotsUsed } : State).setVm s₂.vm), Ls ++ L, c0 + mc, s0 + ms⟩,
      ⟨X.admits, X.cas, X.clock, X.frames, X.room, X.hears, X.method, X.code, (X.here.setHeapUsed s₂.heap s₂.slotsUsed).setVm hW'.alike, X.tail, State.WarmedH.trans X.warmed hW', X.limits, X.bytes, X.same.trans (hsame.setVm s.vm)⟩,
      ⟨g, mk, s₂, L, E, ce, rfl, rfl, hx, hce, hcv, hcl, rfl, hL, rfl, rfl⟩, ?_⟩
    show Steps p.tables e below _ (((({ U with heap := s₂.heap, slotsUsed := s₂.slotsUsed } : State).setVm s₂.vm).setTop g).pushFrame (.throwing q))
    rw [← hs₂]
    exact hsteps
end
variable {p : Program} {l : Launch} {e : Env} {R : Room} {s : State} {m : MethodId} {args : Array Value} {below : List Frame} {meth : Method} {c : Code} {T : State} {H : Heap} {locs : List Loc} {cells slots : Nat}
theorem vx_callVX (X : Stand p l e R s m args below meth c T locs cells slots) (hexec : p.tables.exec = Jvm.exec) {own C : String} {index : Nat} {y : MethodName} {bytes : ByteArray} {maxL : Nat} {ret : Option FieldType} {hh : List (Nat × Nat × Nat × Nat)}
    (hown : s.vm.findClass own = some m.cls) (hlink : (Cond.methodLink own index y).before args s = true) (hinst : (Cond.instanceMethod y).before args s = true) (hsel : (Cond.selects C y y).before args s = true)
    (hcode : (Cond.codeWith y bytes maxL ret hh).before args s = true) (hy : y.cls ≠ "java/lang/invoke/MethodHandle" ∧ y.cls ≠ "java/lang/invoke/VarHandle")
    {W9 : Nat} {Pre : Pt → Array Value → Prop} {Post : Pt → Array Value → Option Value → Pt → Prop} {PostX : Pt → Array Value → Addr → Pt → Prop} (hK : vx_Back l R p e below s args y 3 W9 Pre Post PostX)
    {b : Addr} {cellB : Cell} (hcell : T.heap[b]? = some cellB) (hobj : cellB.vm.isStatics = false) (hcls : s.vm.findClass C = some cellB.cls)
    {g : JFrame} (hg : g.method = m) (hsize : g.locals.size = c.maxLocals) {argsL rest : List Value} (hlen : ∀ sig, parseMethodDescriptor y.desc = some sig → argsL.length = sig.parameters.length)
    (hstack : g.stack = argsL.reverse ++ .ref b :: rest) (hW : 2 * g.monitorRoom + (rest.map fun v => v.category).sum ≤ W9) (hdg : decode c.code g.pc = .ok (.invokevirtual index, 3))
    (hpre : ∀ vm₁, s.WarmedH vm₁ → Pre ⟨T.setVm vm₁, locs, cells, slots⟩ (Value.ref b :: argsL).toArray) :
    (∃ (v : Option Value) (vm₁ : Vm) (B : Pt), s.WarmedH vm₁ ∧ Stand p l e R s m args below meth c B.U B.locs B.cells B.slots ∧ Post ⟨T.setVm vm₁, locs, cells, slots⟩ (Value.ref b :: argsL).toArray v B ∧
      ∀ target, Steps p.tables e below (B.U.setTop { g with pc := g.pc + 3, stack := v.toList ++ rest }) target → Steps p.tables e below (T.setTop g) target) ∨
    (∃ (q : Addr) (vm₁ : Vm) (B : Pt), s.WarmedH vm₁ ∧ Stand p l e R s m args below meth c B.U B.locs B.cells B.slots ∧ PostX ⟨T.setVm vm₁, locs, cells, slots⟩ (Value.ref b :: argsL).toArray q B ∧
      Steps p.tables e below (T.setTop g) ((B.U.setTop { g with stack := rest }).pushFrame (.throwing q))) := by
  obtain ⟨mk, methM, hnamed, hmethM, hstM, habM⟩ := Cond.instanceMethod_spec hinst
  obtain ⟨m8, methM', cM, hn8, hmethM', -, -, -, -, -, -, hsigM⟩ := Cond.codeWith_spec hcode
  cases Option.some.inj (hn8.symm.trans hnamed)
  cases hmethM.symm.trans hmethM'
  obtain ⟨c2, r2, m2, q1, q2, q3, q4, kP, hkP, hkPi⟩ := Cond.selects_spec hsel
  cases hcls.symm.trans q1
  cases (State.methodFound?_of_named hnamed hy).symm.trans q2
  cases hnamed.symm.trans q3
  have hselP : selectMethod e.platform s.vm cellB.cls mk = .method mk := by rw [Launch.admits_selectMethod X.admits]; exact q4
  obtain ⟨vm₁, X₁, hstep₁⟩ := X.invokevirtual hexec hown hlink hnamed hmethM hstM hkP hkPi hy (a := b) (cell := cellB) hcell
    (fun z h => by rw [h] at hobj; cases hobj) hselP hmethM habM hkP hkPi (g := g) hg (argsL := argsL) (rest := rest) (hlen _ hsigM) hstack hdg
  rcases hK m meth c ⟨T.setVm vm₁, locs, cells, slots⟩ { g with stack := rest } (.invokevirtual index) mk (Value.ref b :: argsL).toArray X₁ hg hsize hdg hW (X₁.named hnamed) (hpre vm₁ X₁.warmed) with ⟨v, B, X', hpost, hsteps⟩ | ⟨q, B, X', hpost, hsteps⟩
  · exact Or.inl ⟨v, vm₁, B, X₁.warmed, X', hpost, fun target h => hstep₁ _ fun acts => by rw [doInvoke_state]; exact hsteps.trans h⟩
  · exact Or.inr ⟨q, vm₁, B, X₁.warmed, X', hpost, hstep₁ _ fun acts => by rw [doInvoke_state]; exact hsteps⟩
theorem vx_callSX (X : Stand p l e R s m args below meth c T locs cells slots) (hexec : p.tables.exec = Jvm.exec) {own : String} {index : Nat} {y : MethodName} {bytes : ByteArray} {maxL : Nat} {ret : Option FieldType} {hh : List (Nat × Nat × Nat × Nat)}
    (hown : s.vm.findClass own = some m.cls) (hlink : (Cond.methodLink own index y).before args s = true) (hstat : (Cond.static y).before args s = true) (hinit : (Cond.initialized y.cls).before args s = true)
    (hcode : (Cond.codeWith y bytes maxL ret hh).before args s = true) (hy : y.cls ≠ "java/lang/invoke/MethodHandle" ∧ y.cls ≠ "java/lang/invoke/VarHandle")
    {W9 : Nat} {Pre : Pt → Array Value → Prop} {Post : Pt → Array Value → Option Value → Pt → Prop} {PostX : Pt → Array Value → Addr → Pt → Prop} (hK : vx_Back l R p e below s args y 3 W9 Pre Post PostX)
    {g : JFrame} (hg : g.method = m) (hsize : g.locals.size = c.maxLocals) {argsL rest : List Value} (hlen : ∀ sig, parseMethodDescriptor y.desc = some sig → argsL.length = sig.parameters.length)
    (hstack : g.stack = argsL.reverse ++ rest) (hW : 2 * g.monitorRoom + (rest.map fun v => v.category).sum ≤ W9) (hdg : decode c.code g.pc = .ok (.invokestatic index, 3))
    (hpre : ∀ vm₁, s.WarmedH vm₁ → Pre ⟨T.setVm vm₁, locs, cells, slots⟩ argsL.toArray) :
    (∃ (v : Option Value) (vm₁ : Vm) (B : Pt), s.WarmedH vm₁ ∧ Stand p l e R s m args below meth c B.U B.locs B.cells B.slots ∧ Post ⟨T.setVm vm₁, locs, cells, slots⟩ argsL.toArray v B ∧
      ∀ target, Steps p.tables e below (B.U.setTop { g with pc := g.pc + 3, stack := v.toList ++ rest }) target → Steps p.tables e below (T.setTop g) target) ∨
    (∃ (q : Addr) (vm₁ : Vm) (B : Pt), s.WarmedH vm₁ ∧ Stand p l e R s m args below meth c B.U B.locs B.cells B.slots ∧ PostX ⟨T.setVm vm₁, locs, cells, slots⟩ argsL.toArray q B ∧
      Steps p.tables e below (T.setTop g) ((B.U.setTop { g with stack := rest }).pushFrame (.throwing q))) := by
  obtain ⟨mk, methM, cM, hnamed, hmethM, -, -, -, -, -, -, hsigM⟩ := Cond.codeWith_spec hcode
  have hstatic : methM.isStatic = true := Cond.static_spec hnamed hmethM hstat
  obtain ⟨kP, hkP, -⟩ := className_of_methodNamed hnamed
  have hinitP : kP.init = .initialized := Cond.initialized_spec (findClass_of_methodNamed hnamed) hkP hinit
  obtain ⟨vm₁, X₁, hstep₁⟩ := X.invokestatic hexec hown hlink hnamed hmethM hstatic hkP hinitP hy (g := g) hg (argsL := argsL) (rest := rest) (hlen _ hsigM) hstack hdg
  rcases hK m meth c ⟨T.setVm vm₁, locs, cells, slots⟩ { g with stack := rest } (.invokestatic index) mk argsL.toArray X₁ hg hsize hdg hW (X₁.named hnamed) (hpre vm₁ X₁.warmed) with ⟨v, B, X', hpost, hsteps⟩ | ⟨q, B, X', hpost, hsteps⟩
  · exact Or.inl ⟨v, vm₁, B, X₁.warmed, X', hpost, fun target h => hstep₁ _ fun acts => by rw [doInvoke_state]; exact hsteps.trans h⟩
  · exact Or.inr ⟨q, vm₁, B, X₁.warmed, X', hpost, hstep₁ _ fun acts => by rw [doInvoke_state]; exact hsteps⟩
theorem vx_callVW (X : Stand p l e R s m args below meth c T locs cells slots) (hexec : p.tables.exec = Jvm.exec) {own C : String} {index : Nat} {y : MethodName} {bytes : ByteArray} {maxL : Nat} {ret : Option FieldType} {hh : List (Nat × Nat × Nat × Nat)}
    (hown : s.vm.findClass own = some m.cls) (hlink : (Cond.methodLink own index y).before args s = true) (hinst : (Cond.instanceMethod y).before args s = true) (hsel : (Cond.selects C y y).before args s = true)
    (hcode : (Cond.codeWith y bytes maxL ret hh).before args s = true) (hy : y.cls ≠ "java/lang/invoke/MethodHandle" ∧ y.cls ≠ "java/lang/invoke/VarHandle")
    {W9 : Nat} {Pre : Pt → Array Value → Prop} {Post : Pt → Array Value → Option Value → Pt → Prop} (hK : Back l R p e below s args y 3 W9 Pre Post)
    {b : Addr} {cellB : Cell} (hcell : T.heap[b]? = some cellB) (hobj : cellB.vm.isStatics = false) (hcls : s.vm.findClass C = some cellB.cls)
    {g : JFrame} (hg : g.method = m) (hsize : g.locals.size = c.maxLocals) {argsL rest : List Value} (hlen : ∀ sig, parseMethodDescriptor y.desc = some sig → argsL.length = sig.parameters.length)
    (hstack : g.stack = argsL.reverse ++ .ref b :: rest) (hW : 2 * g.monitorRoom + (rest.map fun v => v.category).sum ≤ W9) (hdg : decode c.code g.pc = .ok (.invokevirtual index, 3))
    (hpre : ∀ vm₁, s.WarmedH vm₁ → Pre ⟨T.setVm vm₁, locs, cells, slots⟩ (Value.ref b :: argsL).toArray) :
    ∃ (v : Option Value) (vm₁ : Vm) (B : Pt), s.WarmedH vm₁ ∧ Stand p l e R s m args below meth c B.U B.locs B.cells B.slots ∧ Post ⟨T.setVm vm₁, locs, cells, slots⟩ (Value.ref b :: argsL).toArray v B ∧
      ∀ target, Steps p.tables e below (B.U.setTop { g with pc := g.pc + 3, stack := v.toList ++ rest }) target → Steps p.tables e below (T.setTop g) target := by
  obtain ⟨mk, methM, hnamed, hmethM, hstM, habM⟩ := Cond.instanceMethod_spec hinst
  obtain ⟨m8, methM', cM, hn8, hmethM', -, -, -, -, -, -, hsigM⟩ := Cond.codeWith_spec hcode
  cases Option.some.inj (hn8.symm.trans hnamed)
  cases hmethM.symm.trans hmethM'
  obtain ⟨c2, r2, m2, q1, q2, q3, q4, kP, hkP, hkPi⟩ := Cond.selects_spec hsel
  cases hcls.symm.trans q1
  cases (State.methodFound?_of_named hnamed hy).symm.trans q2
  cases hnamed.symm.trans q3
  have hselP : selectMethod e.platform s.vm cellB.cls mk = .method mk := by rw [Launch.admits_selectMethod X.admits]; exact q4
  obtain ⟨vm₁, X₁, hstep₁⟩ := X.invokevirtual hexec hown hlink hnamed hmethM hstM hkP hkPi hy (a := b) (cell := cellB) hcell
    (fun z h => by rw [h] at hobj; cases hobj) hselP hmethM habM hkP hkPi (g := g) hg (argsL := argsL) (rest := rest) (hlen _ hsigM) hstack hdg
  obtain ⟨v, B, X', hpost, hsteps⟩ := hK m meth c ⟨T.setVm vm₁, locs, cells, slots⟩ { g with stack := rest } (.invokevirtual index) mk (Value.ref b :: argsL).toArray X₁ hg hsize hdg hW (X₁.named hnamed) (hpre vm₁ X₁.warmed)
  exact ⟨v, vm₁, B, X₁.warmed, X', hpost, fun target h => hstep₁ _ fun acts => by rw [doInvoke_state]; exact hsteps.trans h⟩
abbrev vx_CVW (R : Room) (s : State) (args : Array Value) (own C : String) (index : Nat) (y : MethodName) (bytes : ByteArray) (maxL : Nat) (ret : Option FieldType) (hh : List (Nat × Nat × Nat × Nat)) (ws : List Cond) (rm : Room) (mc ms n : Nat) : Prop :=
  (rm.cells = mc ∧ rm.slots = ms ∧ rm.frames + 1 ≤ R.frames ∧ 8 + (maxL + 11) + rm.locals ≤ R.locals ∧ (∀ w ∈ ws, ∀ (a' : Array Value) (U : State), s.WarmedH U.vm → w.before a' U = true) ∧ Cond.codeWith y bytes maxL ret hh ∈ ws) ∧
  (Cond.codeWith y bytes maxL ret hh).before args s = true ∧ (Cond.initialized y.cls).before args s = true ∧ (y.cls ≠ "java/lang/invoke/MethodHandle" ∧ y.cls ≠ "java/lang/invoke/VarHandle") ∧
  (∀ sig, parseMethodDescriptor y.desc = some sig → n = sig.parameters.length) ∧ (Cond.methodLink own index y).before args s = true ∧ (Cond.instanceMethod y).before args s = true ∧ (Cond.selects C y y).before args s = true
theorem vx_cwVW {own C : String} {index maxL mc ms : Nat} {y : MethodName} {bytes : ByteArray} {ret : Option FieldType} {hh : List (Nat × Nat × Nat × Nat)} {Ts ws ws' : List Cond} {rm : Room} (n : Nat) (ht : ∀ w ∈ Ts, w.before args s = true) (hT : GoodIn Ts (wsV own index C y ws)) (hw : ws = Cond.codeWith y bytes maxL ret hh :: ws') (hrc : rm.cells = mc) (hrs : rm.slots = ms)
    (hd : y.cls = C ∧ y.cls ≠ "java/lang/invoke/MethodHandle" ∧ y.cls ≠ "java/lang/invoke/VarHandle" ∧ (parseMethodDescriptor y.desc).map (fun d => d.parameters.length) = some n) (hR : rm.frames + 1 ≤ R.frames ∧ 8 + (maxL + 11) + rm.locals ≤ R.locals) :
    vx_CVW R s args own C index y bytes maxL ret hh ws rm mc ms n := by
  obtain ⟨hC, hd⟩ := hd
  subst hC
  have ok : ∀ w ∈ wsV own index y.cls y ws, w.before args s = true := fun w h => ht w (hT w h).1
  have hG : GoodIn Ts ws := fun w h => hT w (by unfold wsV; exact List.mem_append_right _ h)
  have hc : Cond.codeWith y bytes maxL ret hh ∈ ws := by rw [hw]; exact List.mem_cons_self
  refine ⟨⟨hrc, hrs, hR.1, hR.2, pay_in ht hG, hc⟩, ht _ (hG _ hc).1, ok _ (by simp [wsV]), ⟨hd.1, hd.2.1⟩, fun sig h => ?_, ok _ (by simp [wsV]), ok _ (by simp [wsV]), ok _ (by simp [wsV])⟩
  have h2 := hd.2.2
  rw [h] at h2
  exact (Option.some.inj h2).symm
theorem vx_runVW {y : MethodName} {bytes cc : ByteArray} {maxL nL mc ms n index : Nat} {ret : Option FieldType} {hh : List (Nat × Nat × Nat × Nat)} {ws : List Cond} {rm : Room} {Pc : Array Value → State → Prop} {Qc : Array Value → State → Outcome → State → Prop} {free : Addr → Prop} {Ts : List Cond} {own C : String} {b : Addr} {As rest : List Value} {g : JFrame}
    (S : CallFix p m c cc nL s args Ts own) (hM : Met l y ws rm Pc Qc mc ms free) (cw : vx_CVW R s args own C index y bytes maxL ret hh ws rm mc ms n) (hp : PreV s H C b Pc As)
    (hg : g.method = m) (hn : As.length = n) (hsize : g.locals.size = nL) (hstack : g.stack = As.reverse ++ .ref b :: rest) (hW : 2 * g.monitorRoom + (rest.map fun v => v.category).sum ≤ 8) (hdg : decode cc g.pc = .ok (.invokevirtual index, 3)) (hf : cells + mc ≤ R.cells ∧ slots + ms ≤ R.slots) :
    va_Run p l e R s m args below meth c H locs cells slots mc ms g rest (Qc (Value.ref b :: As).toArray) free := by
  obtain ⟨⟨hrc, hrs, hfr, hlo, hws, hcw⟩, hcode, hini, hy, hlen, hl, hin, hse⟩ := cw
  have hK : Back l R p e below s args y 3 8 (PreOf R mc ms Pc) (PostOf Qc mc ms free) := va_backW (hh := hh) (bytes := bytes) (maxL := maxL) (ret := ret) hM hp.1 hrc hrs hfr hlo hws hcw (fun a' U hW => word_at hW (Or.inl (by first | rfl | simp [Cond.onTables, Cond.keeps, Cond.steady])) hini)
  obtain ⟨hx, hb, hml, ho, -⟩ := S
  obtain ⟨-, ⟨cellB, hcB, hoB, hclB⟩, hPc⟩ := hp
  intro T hT X
  obtain ⟨v, vm₁, ⟨U', l2, c2, s2⟩, hW₁, X', ⟨g', mk, t, L, e1, e2, hq, h1, hL, h2, h3⟩, st⟩ := vx_callVW X hx (C := C) (hh := hh) (bytes := bytes) (maxL := maxL) (ret := ret) ho hl hin hse hcode hy hK (by rw [hT]; exact hcB) hoB hclB hg (hsize.trans hml.symm) (argsL := As) (rest := rest) (fun sig h => hn.trans (hlen sig h)) hstack hW (by rw [hb]; exact hdg)
    (fun vm₁ hW₁ => ⟨hf.1, hf.2, hPc (T.setVm vm₁) hT hW₁⟩)
  dsimp only [Pt.U, Pt.locs, Pt.cells, Pt.slots] at X' e1 e2 h1 h2 h3 st
  subst h1; subst h2; subst h3
  exact ⟨v, (T.setVm vm₁).calling g' mk (Value.ref b :: As).toArray, t, U', L, hT, X', hL, e1, e2, hq, st⟩
section
variable {y : MethodName} {bytes cc : ByteArray} {maxL nL mc ms n index : Nat} {ret : Option FieldType} {ws : List Cond} {rm : Room} {Pc : Array Value → State → Prop} {Qc : Array Value → State → Outcome → State → Prop} {XC : String → State → State → Prop} {free : Addr → Prop} {Ts : List Cond} {own C : String} {b : Addr} {As rest : List Value} {g : JFrame}
theorem vx_runVX {hh : List (Nat × Nat × Nat × Nat)} (S : CallFix p m c cc nL s args Ts own) (hM : vx_Met l y ws rm Pc Qc XC mc ms free) (cw : vx_CVW R s args own C index y bytes maxL ret hh ws rm mc ms n) (hp : PreV s H C b Pc As)
    (hg : g.method = m) (hn : As.length = n) (hsize : g.locals.size = nL) (hstack : g.stack = As.reverse ++ .ref b :: rest) (hW : 2 * g.monitorRoom + (rest.map fun v => v.category).sum ≤ 8) (hdg : decode cc g.pc = .ok (.invokevirtual index, 3)) (hf : cells + mc ≤ R.cells ∧ slots + ms ≤ R.slots) :
    vx_Run p l e R s m args below meth c H locs cells slots mc ms g rest (Qc (Value.ref b :: As).toArray) XC free := by
  obtain ⟨⟨hrc, hrs, hfr, hlo, hws, hcw⟩, hcode, hini, hy, hlen, hl, hin, hse⟩ := cw
  have hK : vx_Back l R p e below s args y 3 8 (PreOf R mc ms Pc) (PostOf Qc mc ms free) (vx_Post XC mc ms free) := vx_backW (hh := hh) (bytes := bytes) (maxL := maxL) (ret := ret) hM hp.1 hrc hrs hfr hlo hws hcw (fun a' U hW => word_at hW (Or.inl (by first | rfl | simp [Cond.onTables, Cond.keeps, Cond.steady])) hini)
  obtain ⟨hx, hb, hml, ho, -⟩ := S
  obtain ⟨-, ⟨cellB, hcB, hoB, hclB⟩, hPc⟩ := hp
  intro T hT X
  rcases vx_callVX X hx (C := C) (hh := hh) (bytes := bytes) (maxL := maxL) (ret := ret) ho hl hin hse hcode hy hK (by rw [hT]; exact hcB) hoB hclB hg (hsize.trans hml.symm) (argsL := As) (rest := rest) (fun sig h => hn.trans (hlen sig h)) hstack hW (by rw [hb]; exact hdg)
    (fun vm₁ hW₁ => ⟨hf.1, hf.2, hPc (T.setVm vm₁) hT hW₁⟩) with ⟨v, vm₁, ⟨U', l2, c2, s2⟩, hW₁, X', ⟨g', mk, t, L, e1, e2, hq, h1, hL, h2, h3⟩, st⟩ | ⟨q, vm₁, ⟨U', l2, c2, s2⟩, hW₁, X', ⟨g', mk, t, L, E, ce, e1, e2, hq, hce, hcv, hcl, h1, hL, h2, h3⟩, st⟩
  · dsimp only [Pt.U, Pt.locs, Pt.cells, Pt.slots] at X' e1 e2 h1 h2 h3 st
    subst h1; subst h2; subst h3
    exact Or.inl ⟨v, (T.setVm vm₁).calling g' mk (Value.ref b :: As).toArray, t, U', L, hT, X', hL, e1, e2, hq, st⟩
  · dsimp only [Pt.U, Pt.locs, Pt.cells, Pt.slots] at X' e1 e2 h1 h2 h3 st hcl
    subst h1; subst h2; subst h3
    exact Or.inr ⟨q, (T.setVm vm₁).calling g' mk (Value.ref b :: As).toArray, t, U', L, E, ce, hT, X', hL, e1, e2, hq, hce, hcv, vx_cls hW₁ hcl, st⟩
theorem vx_runSX {hh : List (Nat × Nat × Nat × Nat)} (S : CallFix p m c cc nL s args Ts own) (hM : vx_Met l y ws rm Pc Qc XC mc ms free) (cw : vx_CSW R s args own index y bytes maxL ret hh ws rm mc ms n) (hp : PreS s H Pc As)
    (hg : g.method = m) (hn : As.length = n) (hsize : g.locals.size = nL) (hstack : g.stack = As.reverse ++ rest) (hW : 2 * g.monitorRoom + (rest.map fun v => v.category).sum ≤ 8) (hdg : decode cc g.pc = .ok (.invokestatic index, 3)) (hf : cells + mc ≤ R.cells ∧ slots + ms ≤ R.slots) :
    vx_Run p l e R s m args below meth c H locs cells slots mc ms g rest (Qc As.toArray) XC free := by
  obtain ⟨⟨hrc, hrs, hfr, hlo, hws, hcw⟩, hcode, hini, hy, hlen, hl, hstt⟩ := cw
  have hK : vx_Back l R p e below s args y 3 8 (PreOf R mc ms Pc) (PostOf Qc mc ms free) (vx_Post XC mc ms free) := vx_backW (hh := hh) (bytes := bytes) (maxL := maxL) (ret := ret) hM hp.1 hrc hrs hfr hlo hws hcw (fun a' U hW => word_at hW (Or.inl (by first | rfl | simp [Cond.onTables, Cond.keeps, Cond.steady])) hini)
  obtain ⟨hx, hb, hml, ho, -⟩ := S
  intro T hT X
  rcases vx_callSX X hx (hh := hh) (bytes := bytes) (maxL := maxL) (ret := ret) ho hl hstt hini hcode hy hK hg (hsize.trans hml.symm) (argsL := As) (rest := rest) (fun sig h => hn.trans (hlen sig h)) hstack hW (by rw [hb]; exact hdg)
    (fun vm₁ hW₁ => ⟨hf.1, hf.2, hp.2 (T.setVm vm₁) hT hW₁⟩) with ⟨v, vm₁, ⟨U', l2, c2, s2⟩, hW₁, X', ⟨g', mk, t, L, e1, e2, hq, h1, hL, h2, h3⟩, st⟩ | ⟨q, vm₁, ⟨U', l2, c2, s2⟩, hW₁, X', ⟨g', mk, t, L, E, ce, e1, e2, hq, hce, hcv, hcl, h1, hL, h2, h3⟩, st⟩
  · dsimp only [Pt.U, Pt.locs, Pt.cells, Pt.slots] at X' e1 e2 h1 h2 h3 st
    subst h1; subst h2; subst h3
    exact Or.inl ⟨v, (T.setVm vm₁).calling g' mk As.toArray, t, U', L, hT, X', hL, e1, e2, hq, st⟩
  · dsimp only [Pt.U, Pt.locs, Pt.cells, Pt.slots] at X' e1 e2 h1 h2 h3 st hcl
    subst h1; subst h2; subst h3
    exact Or.inr ⟨q, (T.setVm vm₁).calling g' mk As.toArray, t, U', L, E, ce, hT, X', hL, e1, e2, hq, hce, hcv, vx_cls hW₁ hcl, st⟩
end
end VXH
theorem vx_ofWH {l : Launch} {y : MethodName} {ws ws' : List Cond} {rm : Room} {Pc : Array Value → State → Prop} {Qc : Array Value → State → Outcome → State → Prop} {XC : String → State → State → Prop} {mc ms : Nat} {free : Addr → Prop} {cc : ByteArray} {maxL : Nat} {ret : Option FieldType} {hh : List (Nat × Nat × Nat × Nat)}
    (hy : plainName y.cls = true) (hw : ws = Cond.codeWith y cc maxL ret hh :: ws')
    (body : ∀ p e s m args below meth c s₁, BodyLoose p l y (headSpec ws rm) cc maxL ret e s m args below meth c s₁ → c.maxLocals = maxL → Pc args s →
      W p l e (headSpec ws rm).room s m args below meth c s.heap [] 0 0 (vx_MQ below Qc XC args s mc ms free) (entryFrame m args maxL)) : vx_Met l y ws rm Pc Qc XC mc ms free := by
  refine MetFree.of_bodyS (code := cc) (maxLocals := maxL) (ret := ret) hy ?_ ?_
  · intro args s m h hn
    obtain ⟨m9, meth, c, hn9, h1, h2, h3, h4, -, h5, h6, -⟩ := Cond.codeWith_spec (atoms_spec (ws := ws) h _ (by rw [hw]; exact List.mem_cons_self))
    cases hn.symm.trans hn9
    exact ⟨meth, c, h1, h2, h3, h4, h5, h6⟩
  · intro p e s m args below meth c s₁ B hml hP _
    have hh0 : s₁.heap = s.heap := by rw [B.state]; rfl
    obtain ⟨t, a1, o, b1, b2, b3⟩ := body p e s m args below meth c s₁ B hml hP s₁ hh0 (Stand.of_body B)
    exact ⟨t, o, a1, b1, b2, b3⟩
/-! ===== END ===== -/
end
section
/-! ===== BEGIN printed: names, fields, word lists, decode rows ===== -/
def RX0 : String := "AssemblyPlanner$Cell"
def TX0 : u_T := fun k => match k with
  | 0 => ("AssemblyPlanner$Cell", "product", "LAssemblyPlanner$Product;", true)
  | 1 => ("AssemblyPlanner$Cell", "jamsToCome", "[I", true)
  | 2 => ("AssemblyPlanner$Cell", "jamsSinceStart", "[I", true)
  | 3 => ("AssemblyPlanner$Cell", "begun", "Z", false)
  | 4 => ("AssemblyPlanner$Cell", "placesIn", "I", false)
  | 5 => ("AssemblyPlanner$Cell", "in", "I", false)
  | 6 => ("AssemblyPlanner$Cell", "time", "I", false)
  | _ => ("AssemblyPlanner$Cell", "tool", "I", false)
def tyX0 : Nat → FieldType := fun k => match k with
  | 0 => .object "AssemblyPlanner$Product"
  | 1 => .array .int
  | 2 => .array .int
  | 3 => .boolean
  | 4 => .int
  | 5 => .int
  | 6 => .int
  | _ => .int
abbrev wsX00 : List Cond := u_ws RX0 TX0 8
theorem nmX0 : ∀ a, a < 8 → ∀ b, b < 8 → a ≠ b → (TX0 a).2.1 ≠ (TX0 b).2.1 := by decide +kernel
theorem tyX0_ok : ∀ k, k < 8 → parseFieldDescriptor (TX0 k).2.2.1 = some (tyX0 k) := by decide +kernel
abbrev cX0_init : ByteArray := prog_2_method_1_code
def yX0_init : MethodName := ⟨RX0, "<init>", "(LAssemblyPlanner$Product;)V"⟩
abbrev cX0_changeJams : ByteArray := prog_2_method_2_code
def yX0_changeJams : MethodName := ⟨RX0, "changeJams", "(II)I"⟩
abbrev cX0_start : ByteArray := prog_2_method_3_code
def yX0_start : MethodName := ⟨RX0, "start", "()V"⟩
abbrev cX0_halt : ByteArray := prog_2_method_4_code
def yX0_halt : MethodName := ⟨RX0, "halt", "()V"⟩
abbrev cX0_nextPlace : ByteArray := prog_2_method_5_code
def yX0_nextPlace : MethodName := ⟨RX0, "nextPlace", "()I"⟩
abbrev cX0_lastPlace : ByteArray := prog_2_method_6_code
def yX0_lastPlace : MethodName := ⟨RX0, "lastPlace", "()I"⟩
abbrev cX0_tryToPutIn : ByteArray := prog_2_method_7_code
def yX0_tryToPutIn : MethodName := ⟨RX0, "tryToPutIn", "(I)Z"⟩
abbrev cX0_takeOut : ByteArray := prog_2_method_8_code
def yX0_takeOut : MethodName := ⟨RX0, "takeOut", "(I)V"⟩
abbrev cX0_partsIn : ByteArray := prog_2_method_9_code
def yX0_partsIn : MethodName := ⟨RX0, "partsIn", "()I"⟩
abbrev cX0_timeSinceStart : ByteArray := prog_2_method_10_code
def yX0_timeSinceStart : MethodName := ⟨RX0, "timeSinceStart", "()I"⟩
abbrev cX0_toolMounted : ByteArray := prog_2_method_11_code
def yX0_toolMounted : MethodName := ⟨RX0, "toolMounted", "()I"⟩
abbrev cX0_bypassed : ByteArray := prog_2_method_12_code
def yX0_bypassed : MethodName := ⟨RX0, "bypassed", "(I)Z"⟩
abbrev cX0_mount : ByteArray := prog_2_method_13_code
def yX0_mount : MethodName := ⟨RX0, "mount", "(I)V"⟩
abbrev cX0_clearJam : ByteArray := prog_2_method_14_code
def yX0_clearJam : MethodName := ⟨RX0, "clearJam", "(I)V"⟩
abbrev cX0_putIn : ByteArray := prog_2_method_15_code
def yX0_putIn : MethodName := ⟨RX0, "putIn", "(I)V"⟩
def RX1 : String := "AssemblyPlanner$Ordering"
def TX1 : u_T := fun k => match k with
  | 0 => ("AssemblyPlanner$Ordering", "product", "LAssemblyPlanner$Product;", true)
  | 1 => ("AssemblyPlanner$Ordering", "sound", "[Z", true)
  | 2 => ("AssemblyPlanner$Ordering", "nexts", "[I", true)
  | 3 => ("AssemblyPlanner$Ordering", "orders", "[I", true)
  | 4 => ("AssemblyPlanner$Ordering", "changes", "[I", true)
  | 5 => ("AssemblyPlanner$Ordering", "best", "[I", true)
  | 6 => ("AssemblyPlanner$Ordering", "fewest", "I", false)
  | _ => ("AssemblyPlanner$Ordering", "known", "Z", false)
def tyX1 : Nat → FieldType := fun k => match k with
  | 0 => .object "AssemblyPlanner$Product"
  | 1 => .array .boolean
  | 2 => .array .int
  | 3 => .array .int
  | 4 => .array .int
  | 5 => .array .int
  | 6 => .int
  | _ => .boolean
abbrev wsX10 : List Cond := u_ws RX1 TX1 8
theorem nmX1 : ∀ a, a < 8 → ∀ b, b < 8 → a ≠ b → (TX1 a).2.1 ≠ (TX1 b).2.1 := by decide +kernel
theorem tyX1_ok : ∀ k, k < 8 → parseFieldDescriptor (TX1 k).2.2.1 = some (tyX1 k) := by decide +kernel
abbrev cX1_init : ByteArray := prog_3_method_1_code
def yX1_init : MethodName := ⟨RX1, "<init>", "(LAssemblyPlanner$Product;)V"⟩
abbrev cX1_forget : ByteArray := prog_3_method_2_code
def yX1_forget : MethodName := ⟨RX1, "forget", "()V"⟩
abbrev cX1_possible : ByteArray := prog_3_method_3_code
def yX1_possible : MethodName := ⟨RX1, "possible", "()I"⟩
abbrev cX1_fewestBySets : ByteArray := prog_3_method_4_code
def yX1_fewestBySets : MethodName := ⟨RX1, "fewestBySets", "()I"⟩
abbrev cX1_fewestListed : ByteArray := prog_3_method_5_code
def yX1_fewestListed : MethodName := ⟨RX1, "fewestListed", "()I"⟩
abbrev cX1_bestAt : ByteArray := prog_3_method_6_code
def yX1_bestAt : MethodName := ⟨RX1, "bestAt", "(I)I"⟩
abbrev cX1_orNone : ByteArray := prog_3_method_7_code
def yX1_orNone : MethodName := ⟨RX1, "orNone", "(I)I"⟩
abbrev cX1_find : ByteArray := prog_3_method_8_code
def yX1_find : MethodName := ⟨RX1, "find", "()V"⟩
abbrev cX1_nextsOf : ByteArray := prog_3_method_9_code
def yX1_nextsOf : MethodName := ⟨RX1, "nextsOf", "(I)I"⟩
abbrev cX1_ordersFrom : ByteArray := prog_3_method_10_code
def yX1_ordersFrom : MethodName := ⟨RX1, "ordersFrom", "(I)I"⟩
abbrev cX1_fewestFrom : ByteArray := prog_3_method_11_code
def yX1_fewestFrom : MethodName := ⟨RX1, "fewestFrom", "(II)I"⟩
abbrev cX1_changesWith : ByteArray := prog_3_method_12_code
def yX1_changesWith : MethodName := ⟨RX1, "changesWith", "(III)I"⟩
abbrev cX1_change : ByteArray := prog_3_method_13_code
def yX1_change : MethodName := ⟨RX1, "change", "(II)I"⟩
abbrev cX1_findBest : ByteArray := prog_3_method_14_code
def yX1_findBest : MethodName := ⟨RX1, "findBest", "()V"⟩
abbrev cX1_leastNext : ByteArray := prog_3_method_15_code
def yX1_leastNext : MethodName := ⟨RX1, "leastNext", "(III)I"⟩
abbrev cX1_listed : ByteArray := prog_3_method_16_code
def yX1_listed : MethodName := ⟨RX1, "listed", "(LAssemblyPlanner$Ordering;III)I"⟩
def RX2 : String := "AssemblyPlanner$Parting"
def TX2 : u_T := fun k => match k with
  | 0 => ("AssemblyPlanner$Parting", "product", "LAssemblyPlanner$Product;", true)
  | 1 => ("AssemblyPlanner$Parting", "connected", "[Z", true)
  | 2 => ("AssemblyPlanner$Parting", "splits", "[I", true)
  | 3 => ("AssemblyPlanner$Parting", "ways", "[I", true)
  | 4 => ("AssemblyPlanner$Parting", "depths", "[I", true)
  | _ => ("AssemblyPlanner$Parting", "known", "Z", false)
def tyX2 : Nat → FieldType := fun k => match k with
  | 0 => .object "AssemblyPlanner$Product"
  | 1 => .array .boolean
  | 2 => .array .int
  | 3 => .array .int
  | 4 => .array .int
  | _ => .boolean
abbrev wsX20 : List Cond := u_ws RX2 TX2 6
theorem nmX2 : ∀ a, a < 6 → ∀ b, b < 6 → a ≠ b → (TX2 a).2.1 ≠ (TX2 b).2.1 := by decide +kernel
theorem tyX2_ok : ∀ k, k < 6 → parseFieldDescriptor (TX2 k).2.2.1 = some (tyX2 k) := by decide +kernel
abbrev cX2_init : ByteArray := prog_4_method_1_code
def yX2_init : MethodName := ⟨RX2, "<init>", "(LAssemblyPlanner$Product;)V"⟩
abbrev cX2_forget : ByteArray := prog_4_method_2_code
def yX2_forget : MethodName := ⟨RX2, "forget", "()V"⟩
abbrev cX2_splitsOf : ByteArray := prog_4_method_3_code
def yX2_splitsOf : MethodName := ⟨RX2, "splitsOf", "(I)I"⟩
abbrev cX2_waysOf : ByteArray := prog_4_method_4_code
def yX2_waysOf : MethodName := ⟨RX2, "waysOf", "(I)I"⟩
abbrev cX2_leastDepthOf : ByteArray := prog_4_method_5_code
def yX2_leastDepthOf : MethodName := ⟨RX2, "leastDepthOf", "(I)I"⟩
abbrev cX2_find : ByteArray := prog_4_method_6_code
def yX2_find : MethodName := ⟨RX2, "find", "()V"⟩
abbrev cX2_findFor : ByteArray := prog_4_method_7_code
def yX2_findFor : MethodName := ⟨RX2, "findFor", "(I)V"⟩
abbrev cX2_isSplit : ByteArray := prog_4_method_8_code
def yX2_isSplit : MethodName := ⟨RX2, "isSplit", "(II)Z"⟩
abbrev cX2_addSplit : ByteArray := prog_4_method_9_code
def yX2_addSplit : MethodName := ⟨RX2, "addSplit", "(III)V"⟩
def RX3 : String := "AssemblyPlanner$Product"
def TX3 : u_T := fun k => match k with
  | 0 => ("AssemblyPlanner$Product", "tools", "[I", true)
  | 1 => ("AssemblyPlanner$Product", "contacts", "[I", true)
  | 2 => ("AssemblyPlanner$Product", "hinderers", "[I", true)
  | 3 => ("AssemblyPlanner$Product", "count", "I", false)
  | 4 => ("AssemblyPlanner$Product", "base", "I", false)
  | _ => ("AssemblyPlanner$Product", "steadyAsked", "Z", false)
def tyX3 : Nat → FieldType := fun k => match k with
  | 0 => .array .int
  | 1 => .array .int
  | 2 => .array .int
  | 3 => .int
  | 4 => .int
  | _ => .boolean
abbrev wsX30 : List Cond := u_ws RX3 TX3 6
theorem nmX3 : ∀ a, a < 6 → ∀ b, b < 6 → a ≠ b → (TX3 a).2.1 ≠ (TX3 b).2.1 := by decide +kernel
theorem tyX3_ok : ∀ k, k < 6 → parseFieldDescriptor (TX3 k).2.2.1 = some (tyX3 k) := by decide +kernel
abbrev cX3_init : ByteArray := prog_5_method_1_code
def yX3_init : MethodName := ⟨RX3, "<init>", "()V"⟩
abbrev cX3_count : ByteArray := prog_5_method_2_code
def yX3_count : MethodName := ⟨RX3, "count", "()I"⟩
abbrev cX3_all : ByteArray := prog_5_method_3_code
def yX3_all : MethodName := ⟨RX3, "all", "()I"⟩
abbrev cX3_tool : ByteArray := prog_5_method_4_code
def yX3_tool : MethodName := ⟨RX3, "tool", "(I)I"⟩
abbrev cX3_add : ByteArray := prog_5_method_5_code
def yX3_add : MethodName := ⟨RX3, "add", "(I)I"⟩
abbrev cX3_changeTool : ByteArray := prog_5_method_6_code
def yX3_changeTool : MethodName := ⟨RX3, "changeTool", "(II)I"⟩
abbrev cX3_tellContact : ByteArray := prog_5_method_7_code
def yX3_tellContact : MethodName := ⟨RX3, "tellContact", "(IIZ)I"⟩
abbrev cX3_tellHindered : ByteArray := prog_5_method_8_code
def yX3_tellHindered : MethodName := ⟨RX3, "tellHindered", "(IIIZ)I"⟩
abbrev cX3_changeBase : ByteArray := prog_5_method_9_code
def yX3_changeBase : MethodName := ⟨RX3, "changeBase", "(I)I"⟩
abbrev cX3_changeSteadyAsked : ByteArray := prog_5_method_10_code
def yX3_changeSteadyAsked : MethodName := ⟨RX3, "changeSteadyAsked", "(Z)Z"⟩
abbrev cX3_connected : ByteArray := prog_5_method_11_code
def yX3_connected : MethodName := ⟨RX3, "connected", "(I)Z"⟩
abbrev cX3_steady : ByteArray := prog_5_method_12_code
def yX3_steady : MethodName := ⟨RX3, "steady", "(I)Z"⟩
abbrev cX3_sound : ByteArray := prog_5_method_13_code
def yX3_sound : MethodName := ⟨RX3, "sound", "(I)Z"⟩
abbrev cX3_freeDirections : ByteArray := prog_5_method_14_code
def yX3_freeDirections : MethodName := ⟨RX3, "freeDirections", "(II)I"⟩
abbrev cX3_takeable : ByteArray := prog_5_method_15_code
def yX3_takeable : MethodName := ⟨RX3, "takeable", "(II)Z"⟩
abbrev cX3_movingWith : ByteArray := prog_5_method_16_code
def yX3_movingWith : MethodName := ⟨RX3, "movingWith", "(II)I"⟩
abbrev cX3_boundWith : ByteArray := prog_5_method_17_code
def yX3_boundWith : MethodName := ⟨RX3, "boundWith", "(II)I"⟩
abbrev cX3_boundGroups : ByteArray := prog_5_method_18_code
def yX3_boundGroups : MethodName := ⟨RX3, "boundGroups", "(I)I"⟩
abbrev cX3_separable : ByteArray := prog_5_method_19_code
def yX3_separable : MethodName := ⟨RX3, "separable", "(II)Z"⟩
abbrev cX3_hindered : ByteArray := prog_5_method_20_code
def yX3_hindered : MethodName := ⟨RX3, "hindered", "(III)Z"⟩
abbrev cX3_opposite : ByteArray := prog_5_method_21_code
def yX3_opposite : MethodName := ⟨RX3, "opposite", "(I)I"⟩
abbrev cX3_changed : ByteArray := prog_5_method_22_code
def yX3_changed : MethodName := ⟨RX3, "changed", "(IIZ)I"⟩
abbrev cX3_reached : ByteArray := prog_5_method_23_code
def yX3_reached : MethodName := ⟨RX3, "reached", "([IIII)I"⟩
def RX4 : String := "AssemblyPlanner"
def TX4 : u_T := fun k => match k with
  | 0 => ("AssemblyPlanner", "product", "LAssemblyPlanner$Product;", true)
  | 1 => ("AssemblyPlanner", "parting", "LAssemblyPlanner$Parting;", true)
  | 2 => ("AssemblyPlanner", "ordering", "LAssemblyPlanner$Ordering;", true)
  | _ => ("AssemblyPlanner", "cell", "LAssemblyPlanner$Cell;", true)
def tyX4 : Nat → FieldType := fun k => match k with
  | 0 => .object "AssemblyPlanner$Product"
  | 1 => .object "AssemblyPlanner$Parting"
  | 2 => .object "AssemblyPlanner$Ordering"
  | _ => .object "AssemblyPlanner$Cell"
abbrev wsX40 : List Cond := u_ws RX4 TX4 4
theorem nmX4 : ∀ a, a < 4 → ∀ b, b < 4 → a ≠ b → (TX4 a).2.1 ≠ (TX4 b).2.1 := by decide +kernel
theorem tyX4_ok : ∀ k, k < 4 → parseFieldDescriptor (TX4 k).2.2.1 = some (tyX4 k) := by decide +kernel
abbrev cX4_init : ByteArray := prog_1_method_1_code
def yX4_init : MethodName := ⟨RX4, "<init>", "()V"⟩
abbrev cX4_addPart : ByteArray := prog_1_method_2_code
def yX4_addPart : MethodName := ⟨RX4, "addPart", "(I)I"⟩
abbrev cX4_setTool : ByteArray := prog_1_method_3_code
def yX4_setTool : MethodName := ⟨RX4, "setTool", "(II)I"⟩
abbrev cX4_contact : ByteArray := prog_1_method_4_code
def yX4_contact : MethodName := ⟨RX4, "contact", "(IIZ)I"⟩
abbrev cX4_hinder : ByteArray := prog_1_method_5_code
def yX4_hinder : MethodName := ⟨RX4, "hinder", "(IIIZ)I"⟩
abbrev cX4_setBase : ByteArray := prog_1_method_6_code
def yX4_setBase : MethodName := ⟨RX4, "setBase", "(I)I"⟩
abbrev cX4_askSteady : ByteArray := prog_1_method_7_code
def yX4_askSteady : MethodName := ⟨RX4, "askSteady", "(Z)Z"⟩
abbrev cX4_parts : ByteArray := prog_1_method_8_code
def yX4_parts : MethodName := ⟨RX4, "parts", "()I"⟩
abbrev cX4_isConnected : ByteArray := prog_1_method_9_code
def yX4_isConnected : MethodName := ⟨RX4, "isConnected", "(I)Z"⟩
abbrev cX4_isSteady : ByteArray := prog_1_method_10_code
def yX4_isSteady : MethodName := ⟨RX4, "isSteady", "(I)Z"⟩
abbrev cX4_free : ByteArray := prog_1_method_11_code
def yX4_free : MethodName := ⟨RX4, "free", "(II)I"⟩
abbrev cX4_canTake : ByteArray := prog_1_method_12_code
def yX4_canTake : MethodName := ⟨RX4, "canTake", "(II)Z"⟩
abbrev cX4_movesWith : ByteArray := prog_1_method_13_code
def yX4_movesWith : MethodName := ⟨RX4, "movesWith", "(II)I"⟩
abbrev cX4_boundTo : ByteArray := prog_1_method_14_code
def yX4_boundTo : MethodName := ⟨RX4, "boundTo", "(II)I"⟩
abbrev cX4_groups : ByteArray := prog_1_method_15_code
def yX4_groups : MethodName := ⟨RX4, "groups", "(I)I"⟩
abbrev cX4_splits : ByteArray := prog_1_method_16_code
def yX4_splits : MethodName := ⟨RX4, "splits", "(I)I"⟩
abbrev cX4_ways : ByteArray := prog_1_method_17_code
def yX4_ways : MethodName := ⟨RX4, "ways", "()I"⟩
abbrev cX4_leastDepth : ByteArray := prog_1_method_18_code
def yX4_leastDepth : MethodName := ⟨RX4, "leastDepth", "()I"⟩
abbrev cX4_orders : ByteArray := prog_1_method_19_code
def yX4_orders : MethodName := ⟨RX4, "orders", "()I"⟩
abbrev cX4_fewestChanges : ByteArray := prog_1_method_20_code
def yX4_fewestChanges : MethodName := ⟨RX4, "fewestChanges", "()I"⟩
abbrev cX4_fewestByListing : ByteArray := prog_1_method_21_code
def yX4_fewestByListing : MethodName := ⟨RX4, "fewestByListing", "()I"⟩
abbrev cX4_orderAt : ByteArray := prog_1_method_22_code
def yX4_orderAt : MethodName := ⟨RX4, "orderAt", "(I)I"⟩
abbrev cX4_setJams : ByteArray := prog_1_method_23_code
def yX4_setJams : MethodName := ⟨RX4, "setJams", "(II)I"⟩
abbrev cX4_begin : ByteArray := prog_1_method_24_code
def yX4_begin : MethodName := ⟨RX4, "begin", "()I"⟩
abbrev cX4_step : ByteArray := prog_1_method_25_code
def yX4_step : MethodName := ⟨RX4, "step", "()I"⟩
abbrev cX4_stepBack : ByteArray := prog_1_method_26_code
def yX4_stepBack : MethodName := ⟨RX4, "stepBack", "()I"⟩
abbrev cX4_built : ByteArray := prog_1_method_27_code
def yX4_built : MethodName := ⟨RX4, "built", "()I"⟩
abbrev cX4_clock : ByteArray := prog_1_method_28_code
def yX4_clock : MethodName := ⟨RX4, "clock", "()I"⟩
abbrev cX4_mounted : ByteArray := prog_1_method_29_code
def yX4_mounted : MethodName := ⟨RX4, "mounted", "()I"⟩
abbrev cX4_isBypassed : ByteArray := prog_1_method_30_code
def yX4_isBypassed : MethodName := ⟨RX4, "isBypassed", "(I)Z"⟩
abbrev cX4_productIsTold : ByteArray := prog_1_method_31_code
def yX4_productIsTold : MethodName := ⟨RX4, "productIsTold", "()V"⟩
abbrev cX4_needPart : ByteArray := prog_1_method_32_code
def yX4_needPart : MethodName := ⟨RX4, "needPart", "(I)V"⟩
abbrev cX4_needDirection : ByteArray := prog_1_method_33_code
def yX4_needDirection : MethodName := ⟨RX4, "needDirection", "(I)V"⟩
abbrev cX4_needTool : ByteArray := prog_1_method_34_code
def yX4_needTool : MethodName := ⟨RX4, "needTool", "(I)V"⟩
abbrev cX4_needDifferent : ByteArray := prog_1_method_35_code
def yX4_needDifferent : MethodName := ⟨RX4, "needDifferent", "(II)V"⟩
abbrev cX4_needSet : ByteArray := prog_1_method_36_code
def yX4_needSet : MethodName := ⟨RX4, "needSet", "(I)V"⟩
abbrev cX4_needSetWith : ByteArray := prog_1_method_37_code
def yX4_needSetWith : MethodName := ⟨RX4, "needSetWith", "(II)V"⟩
abbrev cX4_needParts : ByteArray := prog_1_method_38_code
def yX4_needParts : MethodName := ⟨RX4, "needParts", "()V"⟩
def RX5 : String := "AssemblyPlannerModel"
def TX5 : u_T := fun k => match k with
  | 0 => ("AssemblyPlannerModel", "thrown", "I", false)
  | 1 => ("AssemblyPlannerModel", "parts", "I", false)
  | 2 => ("AssemblyPlannerModel", "tools", "[I", true)
  | 3 => ("AssemblyPlannerModel", "contacts", "[I", true)
  | 4 => ("AssemblyPlannerModel", "hinders", "[I", true)
  | 5 => ("AssemblyPlannerModel", "base", "I", false)
  | 6 => ("AssemblyPlannerModel", "isAsked", "Z", false)
  | 7 => ("AssemblyPlannerModel", "jams", "[I", true)
  | 8 => ("AssemblyPlannerModel", "isBegun", "Z", false)
  | 9 => ("AssemblyPlannerModel", "putIn", "I", false)
  | 10 => ("AssemblyPlannerModel", "built", "I", false)
  | 11 => ("AssemblyPlannerModel", "clock", "I", false)
  | 12 => ("AssemblyPlannerModel", "mounted", "I", false)
  | 13 => ("AssemblyPlannerModel", "cleared", "[I", true)
  | 14 => ("AssemblyPlannerModel", "ways", "[I", true)
  | 15 => ("AssemblyPlannerModel", "depths", "[I", true)
  | 16 => ("AssemblyPlannerModel", "counts", "[I", true)
  | 17 => ("AssemblyPlannerModel", "changes", "[I", true)
  | _ => ("AssemblyPlannerModel", "order", "[I", true)
def tyX5 : Nat → FieldType := fun k => match k with
  | 0 => .int
  | 1 => .int
  | 2 => .array .int
  | 3 => .array .int
  | 4 => .array .int
  | 5 => .int
  | 6 => .boolean
  | 7 => .array .int
  | 8 => .boolean
  | 9 => .int
  | 10 => .int
  | 11 => .int
  | 12 => .int
  | 13 => .array .int
  | 14 => .array .int
  | 15 => .array .int
  | 16 => .array .int
  | 17 => .array .int
  | _ => .array .int
abbrev wsX50 : List Cond := u_ws RX5 TX5 19
theorem nmX5 : ∀ a, a < 19 → ∀ b, b < 19 → a ≠ b → (TX5 a).2.1 ≠ (TX5 b).2.1 := by decide +kernel
theorem tyX5_ok : ∀ k, k < 19 → parseFieldDescriptor (TX5 k).2.2.1 = some (tyX5 k) := by decide +kernel
abbrev cX5_init : ByteArray := prog_7_method_1_code
def yX5_init : MethodName := ⟨RX5, "<init>", "()V"⟩
abbrev cX5_thrown : ByteArray := prog_7_method_2_code
def yX5_thrown : MethodName := ⟨RX5, "thrown", "()I"⟩
abbrev cX5_holds : ByteArray := prog_7_method_3_code
def yX5_holds : MethodName := ⟨RX5, "holds", "(I)Z"⟩
abbrev cX5_isPart : ByteArray := prog_7_method_4_code
def yX5_isPart : MethodName := ⟨RX5, "isPart", "(I)Z"⟩
abbrev cX5_isTool : ByteArray := prog_7_method_5_code
def yX5_isTool : MethodName := ⟨RX5, "isTool", "(I)Z"⟩
abbrev cX5_isDirection : ByteArray := prog_7_method_6_code
def yX5_isDirection : MethodName := ⟨RX5, "isDirection", "(I)Z"⟩
abbrev cX5_whole : ByteArray := prog_7_method_7_code
def yX5_whole : MethodName := ⟨RX5, "whole", "()I"⟩
abbrev cX5_bits : ByteArray := prog_7_method_8_code
def yX5_bits : MethodName := ⟨RX5, "bits", "(I)I"⟩
abbrev cX5_addPart : ByteArray := prog_7_method_9_code
def yX5_addPart : MethodName := ⟨RX5, "addPart", "(I)I"⟩
abbrev cX5_setTool : ByteArray := prog_7_method_10_code
def yX5_setTool : MethodName := ⟨RX5, "setTool", "(II)I"⟩
abbrev cX5_contact : ByteArray := prog_7_method_11_code
def yX5_contact : MethodName := ⟨RX5, "contact", "(IIZ)I"⟩
abbrev cX5_hinder : ByteArray := prog_7_method_12_code
def yX5_hinder : MethodName := ⟨RX5, "hinder", "(IIIZ)I"⟩
abbrev cX5_setBase : ByteArray := prog_7_method_13_code
def yX5_setBase : MethodName := ⟨RX5, "setBase", "(I)I"⟩
abbrev cX5_askSteady : ByteArray := prog_7_method_14_code
def yX5_askSteady : MethodName := ⟨RX5, "askSteady", "(Z)Z"⟩
abbrev cX5_parts : ByteArray := prog_7_method_15_code
def yX5_parts : MethodName := ⟨RX5, "parts", "()I"⟩
abbrev cX5_isSet : ByteArray := prog_7_method_16_code
def yX5_isSet : MethodName := ⟨RX5, "isSet", "(I)Z"⟩
abbrev cX5_reached : ByteArray := prog_7_method_17_code
def yX5_reached : MethodName := ⟨RX5, "reached", "(II)I"⟩
abbrev cX5_hangsTogether : ByteArray := prog_7_method_18_code
def yX5_hangsTogether : MethodName := ⟨RX5, "hangsTogether", "(I)Z"⟩
abbrev cX5_isHeld : ByteArray := prog_7_method_19_code
def yX5_isHeld : MethodName := ⟨RX5, "isHeld", "(I)Z"⟩
abbrev cX5_isSound : ByteArray := prog_7_method_20_code
def yX5_isSound : MethodName := ⟨RX5, "isSound", "(I)Z"⟩
abbrev cX5_freeOf : ByteArray := prog_7_method_21_code
def yX5_freeOf : MethodName := ⟨RX5, "freeOf", "(II)I"⟩
abbrev cX5_isConnected : ByteArray := prog_7_method_22_code
def yX5_isConnected : MethodName := ⟨RX5, "isConnected", "(I)Z"⟩
abbrev cX5_isSteady : ByteArray := prog_7_method_23_code
def yX5_isSteady : MethodName := ⟨RX5, "isSteady", "(I)Z"⟩
abbrev cX5_isOf : ByteArray := prog_7_method_24_code
def yX5_isOf : MethodName := ⟨RX5, "isOf", "(II)Z"⟩
abbrev cX5_free : ByteArray := prog_7_method_25_code
def yX5_free : MethodName := ⟨RX5, "free", "(II)I"⟩
abbrev cX5_canTake : ByteArray := prog_7_method_26_code
def yX5_canTake : MethodName := ⟨RX5, "canTake", "(II)Z"⟩
abbrev cX5_moving : ByteArray := prog_7_method_27_code
def yX5_moving : MethodName := ⟨RX5, "moving", "(II)I"⟩
abbrev cX5_bound : ByteArray := prog_7_method_28_code
def yX5_bound : MethodName := ⟨RX5, "bound", "(II)I"⟩
abbrev cX5_movesWith : ByteArray := prog_7_method_29_code
def yX5_movesWith : MethodName := ⟨RX5, "movesWith", "(II)I"⟩
abbrev cX5_boundTo : ByteArray := prog_7_method_30_code
def yX5_boundTo : MethodName := ⟨RX5, "boundTo", "(II)I"⟩
abbrev cX5_groups : ByteArray := prog_7_method_31_code
def yX5_groups : MethodName := ⟨RX5, "groups", "(I)I"⟩
abbrev cX5_canPart : ByteArray := prog_7_method_32_code
def yX5_canPart : MethodName := ⟨RX5, "canPart", "(II)Z"⟩
abbrev cX5_isSplit : ByteArray := prog_7_method_33_code
def yX5_isSplit : MethodName := ⟨RX5, "isSplit", "(II)Z"⟩
abbrev cX5_splits : ByteArray := prog_7_method_34_code
def yX5_splits : MethodName := ⟨RX5, "splits", "(I)I"⟩
abbrev cX5_comesApart : ByteArray := prog_7_method_35_code
def yX5_comesApart : MethodName := ⟨RX5, "comesApart", "()V"⟩
abbrev cX5_ways : ByteArray := prog_7_method_36_code
def yX5_ways : MethodName := ⟨RX5, "ways", "()I"⟩
abbrev cX5_leastDepth : ByteArray := prog_7_method_37_code
def yX5_leastDepth : MethodName := ⟨RX5, "leastDepth", "()I"⟩
abbrev cX5_canAdd : ByteArray := prog_7_method_38_code
def yX5_canAdd : MethodName := ⟨RX5, "canAdd", "(II)Z"⟩
abbrev cX5_orders : ByteArray := prog_7_method_39_code
def yX5_orders : MethodName := ⟨RX5, "orders", "()I"⟩
abbrev cX5_laysChanges : ByteArray := prog_7_method_40_code
def yX5_laysChanges : MethodName := ⟨RX5, "laysChanges", "()V"⟩
abbrev cX5_best : ByteArray := prog_7_method_41_code
def yX5_best : MethodName := ⟨RX5, "best", "()I"⟩
abbrev cX5_fewestChanges : ByteArray := prog_7_method_42_code
def yX5_fewestChanges : MethodName := ⟨RX5, "fewestChanges", "()I"⟩
abbrev cX5_fewestByListing : ByteArray := prog_7_method_43_code
def yX5_fewestByListing : MethodName := ⟨RX5, "fewestByListing", "()I"⟩
abbrev cX5_orderAt : ByteArray := prog_7_method_44_code
def yX5_orderAt : MethodName := ⟨RX5, "orderAt", "(I)I"⟩
abbrev cX5_setJams : ByteArray := prog_7_method_45_code
def yX5_setJams : MethodName := ⟨RX5, "setJams", "(II)I"⟩
abbrev cX5_begin : ByteArray := prog_7_method_46_code
def yX5_begin : MethodName := ⟨RX5, "begin", "()I"⟩
abbrev cX5_isPassed : ByteArray := prog_7_method_47_code
def yX5_isPassed : MethodName := ⟨RX5, "isPassed", "(I)Z"⟩
abbrev cX5_step : ByteArray := prog_7_method_48_code
def yX5_step : MethodName := ⟨RX5, "step", "()I"⟩
abbrev cX5_stepBack : ByteArray := prog_7_method_49_code
def yX5_stepBack : MethodName := ⟨RX5, "stepBack", "()I"⟩
abbrev cX5_built : ByteArray := prog_7_method_50_code
def yX5_built : MethodName := ⟨RX5, "built", "()I"⟩
abbrev cX5_clock : ByteArray := prog_7_method_51_code
def yX5_clock : MethodName := ⟨RX5, "clock", "()I"⟩
abbrev cX5_mounted : ByteArray := prog_7_method_52_code
def yX5_mounted : MethodName := ⟨RX5, "mounted", "()I"⟩
abbrev cX5_isBypassed : ByteArray := prog_7_method_53_code
def yX5_isBypassed : MethodName := ⟨RX5, "isBypassed", "(I)Z"⟩
def RJ6 : String := "java/lang/Integer"
def TJ6 : u_T := fun k => match k with
  | _ => ("", "", "", false)
def tyJ6 : Nat → FieldType := fun k => match k with
  | _ => .int
abbrev wsJ60 : List Cond := u_ws RJ6 TJ6 0
theorem nmJ6 : ∀ a, a < 0 → ∀ b, b < 0 → a ≠ b → (TJ6 a).2.1 ≠ (TJ6 b).2.1 := by decide +kernel
theorem tyJ6_ok : ∀ k, k < 0 → parseFieldDescriptor (TJ6 k).2.2.1 = some (tyJ6 k) := by decide +kernel
abbrev cJ6_bitCount_0f7a4 : ByteArray := prog_12_method_49_code
def yJ6_bitCount_0f7a4 : MethodName := ⟨RJ6, "bitCount", "(I)I"⟩
def RJ9 : String := "java/lang/Math"
def TJ9 : u_T := fun k => match k with
  | _ => ("", "", "", false)
def tyJ9 : Nat → FieldType := fun k => match k with
  | _ => .int
abbrev wsJ90 : List Cond := u_ws RJ9 TJ9 0
theorem nmJ9 : ∀ a, a < 0 → ∀ b, b < 0 → a ≠ b → (TJ9 a).2.1 ≠ (TJ9 b).2.1 := by decide +kernel
theorem tyJ9_ok : ∀ k, k < 0 → parseFieldDescriptor (TJ9 k).2.2.1 = some (tyJ9 k) := by decide +kernel
abbrev cJ9_max_7cf53 : ByteArray := prog_13_method_65_code
def yJ9_max_7cf53 : MethodName := ⟨RJ9, "max", "(II)I"⟩
abbrev cJ9_min_7cf53 : ByteArray := prog_13_method_69_code
def yJ9_min_7cf53 : MethodName := ⟨RJ9, "min", "(II)I"⟩
def RJ0 : String := "java/lang/String"
def TJ0 : u_T := fun k => match k with
  | _ => ("", "", "", false)
def tyJ0 : Nat → FieldType := fun k => match k with
  | _ => .int
abbrev wsJ00 : List Cond := u_ws RJ0 TJ0 0
theorem nmJ0 : ∀ a, a < 0 → ∀ b, b < 0 → a ≠ b → (TJ0 a).2.1 ≠ (TJ0 b).2.1 := by decide +kernel
theorem tyJ0_ok : ∀ k, k < 0 → parseFieldDescriptor (TJ0 k).2.2.1 = some (tyJ0 k) := by decide +kernel
def RL : String := "AssemblyPlannerLaw"
abbrev cL_addPart : ByteArray := method_3_code
def yL_addPart : MethodName := ⟨RL, "addPart", "(LAssemblyPlanner;I[J)I"⟩
abbrev cL_setTool : ByteArray := method_4_code
def yL_setTool : MethodName := ⟨RL, "setTool", "(LAssemblyPlanner;II[J)I"⟩
abbrev cL_contact : ByteArray := method_5_code
def yL_contact : MethodName := ⟨RL, "contact", "(LAssemblyPlanner;IIZ[J)I"⟩
abbrev cL_hinder : ByteArray := method_6_code
def yL_hinder : MethodName := ⟨RL, "hinder", "(LAssemblyPlanner;IIIZ[J)I"⟩
abbrev cL_setBase : ByteArray := method_7_code
def yL_setBase : MethodName := ⟨RL, "setBase", "(LAssemblyPlanner;I[J)I"⟩
abbrev cL_isConnected : ByteArray := method_8_code
def yL_isConnected : MethodName := ⟨RL, "isConnected", "(LAssemblyPlanner;I[J)I"⟩
abbrev cL_isSteady : ByteArray := method_9_code
def yL_isSteady : MethodName := ⟨RL, "isSteady", "(LAssemblyPlanner;I[J)I"⟩
abbrev cL_free : ByteArray := method_10_code
def yL_free : MethodName := ⟨RL, "free", "(LAssemblyPlanner;II[J)I"⟩
abbrev cL_canTake : ByteArray := method_11_code
def yL_canTake : MethodName := ⟨RL, "canTake", "(LAssemblyPlanner;II[J)I"⟩
abbrev cL_movesWith : ByteArray := method_12_code
def yL_movesWith : MethodName := ⟨RL, "movesWith", "(LAssemblyPlanner;II[J)I"⟩
abbrev cL_boundTo : ByteArray := method_13_code
def yL_boundTo : MethodName := ⟨RL, "boundTo", "(LAssemblyPlanner;II[J)I"⟩
abbrev cL_groups : ByteArray := method_14_code
def yL_groups : MethodName := ⟨RL, "groups", "(LAssemblyPlanner;I[J)I"⟩
abbrev cL_splits : ByteArray := method_15_code
def yL_splits : MethodName := ⟨RL, "splits", "(LAssemblyPlanner;I[J)I"⟩
abbrev cL_ways : ByteArray := method_16_code
def yL_ways : MethodName := ⟨RL, "ways", "(LAssemblyPlanner;[J)I"⟩
abbrev cL_leastDepth : ByteArray := method_17_code
def yL_leastDepth : MethodName := ⟨RL, "leastDepth", "(LAssemblyPlanner;[J)I"⟩
abbrev cL_orders : ByteArray := method_18_code
def yL_orders : MethodName := ⟨RL, "orders", "(LAssemblyPlanner;[J)I"⟩
abbrev cL_fewestChanges : ByteArray := method_19_code
def yL_fewestChanges : MethodName := ⟨RL, "fewestChanges", "(LAssemblyPlanner;[J)I"⟩
abbrev cL_fewestByListing : ByteArray := method_20_code
def yL_fewestByListing : MethodName := ⟨RL, "fewestByListing", "(LAssemblyPlanner;[J)I"⟩
abbrev cL_orderAt : ByteArray := method_21_code
def yL_orderAt : MethodName := ⟨RL, "orderAt", "(LAssemblyPlanner;I[J)I"⟩
abbrev cL_setJams : ByteArray := method_22_code
def yL_setJams : MethodName := ⟨RL, "setJams", "(LAssemblyPlanner;II[J)I"⟩
abbrev cL_begin : ByteArray := method_23_code
def yL_begin : MethodName := ⟨RL, "begin", "(LAssemblyPlanner;[J)I"⟩
abbrev cL_step : ByteArray := method_24_code
def yL_step : MethodName := ⟨RL, "step", "(LAssemblyPlanner;[J)I"⟩
abbrev cL_stepBack : ByteArray := method_25_code
def yL_stepBack : MethodName := ⟨RL, "stepBack", "(LAssemblyPlanner;[J)I"⟩
abbrev cL_isBypassed : ByteArray := method_26_code
def yL_isBypassed : MethodName := ⟨RL, "isBypassed", "(LAssemblyPlanner;I[J)I"⟩
abbrev cL_law : ByteArray := code
def yL_law : MethodName := ⟨RL, "law", "([I)Z"⟩
def wsX0_init : List Cond := .code yX0_init cX0_init 2 none :: ([.methodLink RX0 3 objectInit, .instanceMethod objectInit, .code objectInit ⟨#[0xb1]⟩ 1 none, .arrayClass .int, .fieldLink RX0 9 "AssemblyPlanner$Cell" "jamsToCome" "[I", .fieldLink RX0 15 "AssemblyPlanner$Cell" "jamsSinceStart" "[I", .fieldLink RX0 18 "AssemblyPlanner$Cell" "tool" "I", .fieldLink RX0 22 "AssemblyPlanner$Cell" "product" "LAssemblyPlanner$Product;"] ++ wsX00)
def wsX0_changeJams : List Cond := .code yX0_changeJams cX0_changeJams 4 (some .int) :: ([.fieldLink RX0 9 "AssemblyPlanner$Cell" "jamsToCome" "[I"] ++ wsX00)
def wsX0_halt : List Cond := .code yX0_halt cX0_halt 2 none :: ([.fieldLink RX0 29 "AssemblyPlanner$Cell" "begun" "Z", .fieldLink RX0 33 "AssemblyPlanner$Cell" "placesIn" "I", .fieldLink RX0 36 "AssemblyPlanner$Cell" "in" "I", .fieldLink RX0 39 "AssemblyPlanner$Cell" "time" "I", .fieldLink RX0 18 "AssemblyPlanner$Cell" "tool" "I", .fieldLink RX0 15 "AssemblyPlanner$Cell" "jamsSinceStart" "[I"] ++ wsX00)
def wsX0_start : List Cond := .code yX0_start cX0_start 1 none :: ([.fieldLink RX0 29 "AssemblyPlanner$Cell" "begun" "Z", .methodLink RX0 26 yX0_halt, .instanceMethod yX0_halt, .selects RX0 yX0_halt yX0_halt, .initialized RX0, .code yX0_halt cX0_halt 2 none, .fieldLink RX0 33 "AssemblyPlanner$Cell" "placesIn" "I", .fieldLink RX0 36 "AssemblyPlanner$Cell" "in" "I", .fieldLink RX0 39 "AssemblyPlanner$Cell" "time" "I", .fieldLink RX0 18 "AssemblyPlanner$Cell" "tool" "I", .fieldLink RX0 15 "AssemblyPlanner$Cell" "jamsSinceStart" "[I"] ++ wsX00)
def wsX0_nextPlace : List Cond := .code yX0_nextPlace cX0_nextPlace 1 (some .int) :: ([.fieldLink RX0 29 "AssemblyPlanner$Cell" "begun" "Z", .fieldLink RX0 33 "AssemblyPlanner$Cell" "placesIn" "I"] ++ wsX00)
def wsX0_lastPlace : List Cond := .code yX0_lastPlace cX0_lastPlace 1 (some .int) :: ([.fieldLink RX0 33 "AssemblyPlanner$Cell" "placesIn" "I"] ++ wsX00)
def wsX3_tool : List Cond := .code yX3_tool cX3_tool 2 (some .int) :: ([.fieldLink RX3 9 "AssemblyPlanner$Product" "tools" "[I"] ++ wsX30)
def wsX0_mount : List Cond := .code yX0_mount cX0_mount 2 none :: ([.fieldLink RX0 18 "AssemblyPlanner$Cell" "tool" "I", .fieldLink RX0 39 "AssemblyPlanner$Cell" "time" "I"] ++ wsX00)
def wsX0_bypassed : List Cond := .code yX0_bypassed cX0_bypassed 2 (some .boolean) :: ([.fieldLink RX0 15 "AssemblyPlanner$Cell" "jamsSinceStart" "[I"] ++ wsX00)
def wsX0_clearJam : List Cond := .code yX0_clearJam cX0_clearJam 2 none :: ([.fieldLink RX0 9 "AssemblyPlanner$Cell" "jamsToCome" "[I", .fieldLink RX0 15 "AssemblyPlanner$Cell" "jamsSinceStart" "[I", .fieldLink RX0 39 "AssemblyPlanner$Cell" "time" "I"] ++ wsX00)
def wsX3_freeDirections : List Cond := .code yX3_freeDirections cX3_freeDirections 5 (some .int) :: ([.fieldLink RX3 18 "AssemblyPlanner$Product" "hinderers" "[I"] ++ wsX30)
def wsX0_putIn : List Cond := .code yX0_putIn cX0_putIn 3 none :: ([.fieldLink RX0 36 "AssemblyPlanner$Cell" "in" "I", .fieldLink RX0 33 "AssemblyPlanner$Cell" "placesIn" "I", .fieldLink RX0 22 "AssemblyPlanner$Cell" "product" "LAssemblyPlanner$Product;", .fieldLink RX0 39 "AssemblyPlanner$Cell" "time" "I", .methodLink RX0 61 yX3_freeDirections, .instanceMethod yX3_freeDirections, .selects RX3 yX3_freeDirections yX3_freeDirections, .initialized RX3, .code yX3_freeDirections cX3_freeDirections 5 (some .int), .fieldLink RX3 18 "AssemblyPlanner$Product" "hinderers" "[I"] ++ wsX00 ++ wsX30)
def wsX0_tryToPutIn_r1 : List Cond := [Cond.fieldLink RX0 22 "AssemblyPlanner$Cell" "product" "LAssemblyPlanner$Product;", Cond.fieldLink RX0 9 "AssemblyPlanner$Cell" "jamsToCome" "[I", Cond.fieldLink RX0 39 "AssemblyPlanner$Cell" "time" "I", Cond.methodLink RX0 42 yX3_tool, Cond.instanceMethod yX3_tool, Cond.selects RX3 yX3_tool yX3_tool, Cond.initialized RX3, Cond.code yX3_tool cX3_tool 2 (some .int), Cond.fieldLink RX3 9 "AssemblyPlanner$Product" "tools" "[I", Cond.methodLink RX0 47 yX0_mount, Cond.instanceMethod yX0_mount, Cond.selects RX0 yX0_mount yX0_mount, Cond.initialized RX0, Cond.code yX0_mount cX0_mount 2 none, Cond.fieldLink RX0 18 "AssemblyPlanner$Cell" "tool" "I", Cond.methodLink RX0 51 yX0_bypassed, Cond.instanceMethod yX0_bypassed, Cond.selects RX0 yX0_bypassed yX0_bypassed, Cond.code yX0_bypassed cX0_bypassed 2 (some .boolean), Cond.fieldLink RX0 15 "AssemblyPlanner$Cell" "jamsSinceStart" "[I", Cond.methodLink RX0 55 yX0_clearJam, Cond.instanceMethod yX0_clearJam, Cond.selects RX0 yX0_clearJam yX0_clearJam, Cond.code yX0_clearJam cX0_clearJam 2 none]
def wsX0_tryToPutIn_r2 : List Cond := [Cond.methodLink RX0 58 yX0_putIn, Cond.instanceMethod yX0_putIn, Cond.selects RX0 yX0_putIn yX0_putIn, Cond.code yX0_putIn cX0_putIn 3 none, Cond.fieldLink RX0 36 "AssemblyPlanner$Cell" "in" "I", Cond.fieldLink RX0 33 "AssemblyPlanner$Cell" "placesIn" "I", Cond.methodLink RX0 61 yX3_freeDirections, Cond.instanceMethod yX3_freeDirections, Cond.selects RX3 yX3_freeDirections yX3_freeDirections, Cond.code yX3_freeDirections cX3_freeDirections 5 (some .int), Cond.fieldLink RX3 18 "AssemblyPlanner$Product" "hinderers" "[I"]
def wsX0_tryToPutIn : List Cond := .code yX0_tryToPutIn cX0_tryToPutIn 2 (some .boolean) :: ((wsX0_tryToPutIn_r1 ++ wsX0_tryToPutIn_r2) ++ wsX00 ++ wsX30)
def wsX0_takeOut : List Cond := .code yX0_takeOut cX0_takeOut 2 none :: ([.fieldLink RX0 36 "AssemblyPlanner$Cell" "in" "I", .fieldLink RX0 33 "AssemblyPlanner$Cell" "placesIn" "I", .fieldLink RX0 39 "AssemblyPlanner$Cell" "time" "I"] ++ wsX00)
def wsX0_partsIn : List Cond := .code yX0_partsIn cX0_partsIn 1 (some .int) :: ([.fieldLink RX0 36 "AssemblyPlanner$Cell" "in" "I"] ++ wsX00)
def wsX0_timeSinceStart : List Cond := .code yX0_timeSinceStart cX0_timeSinceStart 1 (some .int) :: ([.fieldLink RX0 39 "AssemblyPlanner$Cell" "time" "I"] ++ wsX00)
def wsX0_toolMounted : List Cond := .code yX0_toolMounted cX0_toolMounted 1 (some .int) :: ([.fieldLink RX0 18 "AssemblyPlanner$Cell" "tool" "I"] ++ wsX00)
def wsX1_init : List Cond := .code yX1_init cX1_init 2 none :: ([.methodLink RX1 3 objectInit, .instanceMethod objectInit, .code objectInit ⟨#[0xb1]⟩ 1 none, .arrayClass .boolean, .fieldLink RX1 9 "AssemblyPlanner$Ordering" "sound" "[Z", .arrayClass .int, .fieldLink RX1 15 "AssemblyPlanner$Ordering" "nexts" "[I", .fieldLink RX1 19 "AssemblyPlanner$Ordering" "orders" "[I", .fieldLink RX1 22 "AssemblyPlanner$Ordering" "changes" "[I", .fieldLink RX1 25 "AssemblyPlanner$Ordering" "best" "[I", .fieldLink RX1 28 "AssemblyPlanner$Ordering" "product" "LAssemblyPlanner$Product;"] ++ wsX10)
def wsX1_forget : List Cond := .code yX1_forget cX1_forget 1 none :: ([.fieldLink RX1 32 "AssemblyPlanner$Ordering" "known" "Z"] ++ wsX10)
def wsX3_all : List Cond := .code yX3_all cX3_all 1 (some .int) :: ([.fieldLink RX3 21 "AssemblyPlanner$Product" "count" "I"] ++ wsX30)
def wsX3_reached : List Cond := .code yX3_reached cX3_reached 7 (some .int) :: ([])
def wsX3_connected : List Cond := .code yX3_connected cX3_connected 3 (some .boolean) :: ([.fieldLink RX3 15 "AssemblyPlanner$Product" "contacts" "[I", .methodLink RX3 45 yX3_reached, .static yX3_reached, .initialized RX3, .code yX3_reached cX3_reached 7 (some .int)] ++ wsX30)
def wsX3_steady : List Cond := .code yX3_steady cX3_steady 2 (some .boolean) :: ([.fieldLink RX3 18 "AssemblyPlanner$Product" "hinderers" "[I", .fieldLink RX3 38 "AssemblyPlanner$Product" "base" "I", .methodLink RX3 45 yX3_reached, .static yX3_reached, .initialized RX3, .code yX3_reached cX3_reached 7 (some .int)] ++ wsX30)
def wsX3_sound : List Cond := .code yX3_sound cX3_sound 2 (some .boolean) :: ([.fieldLink RX3 41 "AssemblyPlanner$Product" "steadyAsked" "Z", .methodLink RX3 49 yX3_connected, .instanceMethod yX3_connected, .selects RX3 yX3_connected yX3_connected, .initialized RX3, .code yX3_connected cX3_connected 3 (some .boolean), .fieldLink RX3 15 "AssemblyPlanner$Product" "contacts" "[I", .methodLink RX3 45 yX3_reached, .static yX3_reached, .code yX3_reached cX3_reached 7 (some .int), .methodLink RX3 53 yX3_steady, .instanceMethod yX3_steady, .selects RX3 yX3_steady yX3_steady, .code yX3_steady cX3_steady 2 (some .boolean), .fieldLink RX3 18 "AssemblyPlanner$Product" "hinderers" "[I", .fieldLink RX3 38 "AssemblyPlanner$Product" "base" "I"] ++ wsX30)
def wsX3_count : List Cond := .code yX3_count cX3_count 1 (some .int) :: ([.fieldLink RX3 21 "AssemblyPlanner$Product" "count" "I"] ++ wsX30)
def wsX1_nextsOf : List Cond := .code yX1_nextsOf cX1_nextsOf 5 (some .int) :: ([.fieldLink RX1 28 "AssemblyPlanner$Ordering" "product" "LAssemblyPlanner$Product;", .fieldLink RX1 9 "AssemblyPlanner$Ordering" "sound" "[Z", .methodLink RX1 51 yX3_count, .instanceMethod yX3_count, .selects RX3 yX3_count yX3_count, .initialized RX3, .code yX3_count cX3_count 1 (some .int), .fieldLink RX3 21 "AssemblyPlanner$Product" "count" "I", .methodLink RX1 76 yX3_freeDirections, .instanceMethod yX3_freeDirections, .selects RX3 yX3_freeDirections yX3_freeDirections, .code yX3_freeDirections cX3_freeDirections 5 (some .int), .fieldLink RX3 18 "AssemblyPlanner$Product" "hinderers" "[I"] ++ wsX10 ++ wsX30)
def wsX1_ordersFrom : List Cond := .code yX1_ordersFrom cX1_ordersFrom 4 (some .int) :: ([.fieldLink RX1 28 "AssemblyPlanner$Ordering" "product" "LAssemblyPlanner$Product;", .fieldLink RX1 15 "AssemblyPlanner$Ordering" "nexts" "[I", .fieldLink RX1 19 "AssemblyPlanner$Ordering" "orders" "[I", .methodLink RX1 57 yX3_all, .instanceMethod yX3_all, .selects RX3 yX3_all yX3_all, .initialized RX3, .code yX3_all cX3_all 1 (some .int), .fieldLink RX3 21 "AssemblyPlanner$Product" "count" "I", .methodLink RX1 51 yX3_count, .instanceMethod yX3_count, .selects RX3 yX3_count yX3_count, .code yX3_count cX3_count 1 (some .int)] ++ wsX10 ++ wsX30)
def wsX1_change : List Cond := .code yX1_change cX1_change 2 (some .int) :: ([])
def wsX1_changesWith : List Cond := .code yX1_changesWith cX1_changesWith 5 (some .int) :: ([.fieldLink RX1 28 "AssemblyPlanner$Ordering" "product" "LAssemblyPlanner$Product;", .fieldLink RX1 22 "AssemblyPlanner$Ordering" "changes" "[I", .methodLink RX1 88 yX3_tool, .instanceMethod yX3_tool, .selects RX3 yX3_tool yX3_tool, .initialized RX3, .code yX3_tool cX3_tool 2 (some .int), .fieldLink RX3 9 "AssemblyPlanner$Product" "tools" "[I", .methodLink RX1 91 yX1_change, .static yX1_change, .initialized RX1, .code yX1_change cX1_change 2 (some .int)] ++ wsX10 ++ wsX30)
def wsX1_fewestFrom_r1 : List Cond := [Cond.fieldLink RX1 28 "AssemblyPlanner$Ordering" "product" "LAssemblyPlanner$Product;", Cond.fieldLink RX1 15 "AssemblyPlanner$Ordering" "nexts" "[I", Cond.methodLink RX1 83 Lib.Math.min.name, Cond.static Lib.Math.min.name, Cond.initialized "java/lang/Math", Cond.code Lib.Math.min.name Lib.Math.min.code 2 (some .int), Cond.methodLink RX1 57 yX3_all, Cond.instanceMethod yX3_all, Cond.selects RX3 yX3_all yX3_all, Cond.initialized RX3, Cond.code yX3_all cX3_all 1 (some .int), Cond.fieldLink RX3 21 "AssemblyPlanner$Product" "count" "I", Cond.methodLink RX1 51 yX3_count, Cond.instanceMethod yX3_count, Cond.selects RX3 yX3_count yX3_count, Cond.code yX3_count cX3_count 1 (some .int), Cond.methodLink RX1 79 yX1_changesWith, Cond.instanceMethod yX1_changesWith, Cond.selects RX1 yX1_changesWith yX1_changesWith, Cond.initialized RX1, Cond.code yX1_changesWith cX1_changesWith 5 (some .int), Cond.fieldLink RX1 22 "AssemblyPlanner$Ordering" "changes" "[I", Cond.methodLink RX1 88 yX3_tool, Cond.instanceMethod yX3_tool]
def wsX1_fewestFrom_r2 : List Cond := [Cond.selects RX3 yX3_tool yX3_tool, Cond.code yX3_tool cX3_tool 2 (some .int), Cond.fieldLink RX3 9 "AssemblyPlanner$Product" "tools" "[I", Cond.methodLink RX1 91 yX1_change, Cond.static yX1_change, Cond.code yX1_change cX1_change 2 (some .int)]
def wsX1_fewestFrom : List Cond := .code yX1_fewestFrom cX1_fewestFrom 5 (some .int) :: ((wsX1_fewestFrom_r1 ++ wsX1_fewestFrom_r2) ++ wsX10 ++ wsX30)
def wsX1_leastNext : List Cond := .code yX1_leastNext cX1_leastNext 5 (some .int) :: ([.fieldLink RX1 28 "AssemblyPlanner$Ordering" "product" "LAssemblyPlanner$Product;", .fieldLink RX1 15 "AssemblyPlanner$Ordering" "nexts" "[I", .methodLink RX1 51 yX3_count, .instanceMethod yX3_count, .selects RX3 yX3_count yX3_count, .initialized RX3, .code yX3_count cX3_count 1 (some .int), .fieldLink RX3 21 "AssemblyPlanner$Product" "count" "I", .methodLink RX1 79 yX1_changesWith, .instanceMethod yX1_changesWith, .selects RX1 yX1_changesWith yX1_changesWith, .initialized RX1, .code yX1_changesWith cX1_changesWith 5 (some .int), .fieldLink RX1 22 "AssemblyPlanner$Ordering" "changes" "[I", .methodLink RX1 88 yX3_tool, .instanceMethod yX3_tool, .selects RX3 yX3_tool yX3_tool, .code yX3_tool cX3_tool 2 (some .int), .fieldLink RX3 9 "AssemblyPlanner$Product" "tools" "[I", .methodLink RX1 91 yX1_change, .static yX1_change, .code yX1_change cX1_change 2 (some .int)] ++ wsX10 ++ wsX30)
def wsX1_findBest_r1 : List Cond := [Cond.fieldLink RX1 39 "AssemblyPlanner$Ordering" "fewest" "I", Cond.fieldLink RX1 28 "AssemblyPlanner$Ordering" "product" "LAssemblyPlanner$Product;", Cond.fieldLink RX1 25 "AssemblyPlanner$Ordering" "best" "[I", Cond.methodLink RX1 51 yX3_count, Cond.instanceMethod yX3_count, Cond.selects RX3 yX3_count yX3_count, Cond.initialized RX3, Cond.code yX3_count cX3_count 1 (some .int), Cond.fieldLink RX3 21 "AssemblyPlanner$Product" "count" "I", Cond.methodLink RX1 94 yX1_leastNext, Cond.instanceMethod yX1_leastNext, Cond.selects RX1 yX1_leastNext yX1_leastNext, Cond.initialized RX1, Cond.code yX1_leastNext cX1_leastNext 5 (some .int), Cond.fieldLink RX1 15 "AssemblyPlanner$Ordering" "nexts" "[I", Cond.methodLink RX1 79 yX1_changesWith, Cond.instanceMethod yX1_changesWith, Cond.selects RX1 yX1_changesWith yX1_changesWith, Cond.code yX1_changesWith cX1_changesWith 5 (some .int), Cond.fieldLink RX1 22 "AssemblyPlanner$Ordering" "changes" "[I", Cond.methodLink RX1 88 yX3_tool, Cond.instanceMethod yX3_tool, Cond.selects RX3 yX3_tool yX3_tool, Cond.code yX3_tool cX3_tool 2 (some .int)]
def wsX1_findBest_r2 : List Cond := [Cond.fieldLink RX3 9 "AssemblyPlanner$Product" "tools" "[I", Cond.methodLink RX1 91 yX1_change, Cond.static yX1_change, Cond.code yX1_change cX1_change 2 (some .int)]
def wsX1_findBest : List Cond := .code yX1_findBest cX1_findBest 6 none :: ((wsX1_findBest_r1 ++ wsX1_findBest_r2) ++ wsX10 ++ wsX30)
def wsX1_find_r1 : List Cond := [Cond.fieldLink RX1 32 "AssemblyPlanner$Ordering" "known" "Z", Cond.fieldLink RX1 28 "AssemblyPlanner$Ordering" "product" "LAssemblyPlanner$Product;", Cond.fieldLink RX1 9 "AssemblyPlanner$Ordering" "sound" "[Z", Cond.fieldLink RX1 15 "AssemblyPlanner$Ordering" "nexts" "[I", Cond.fieldLink RX1 19 "AssemblyPlanner$Ordering" "orders" "[I", Cond.fieldLink RX1 22 "AssemblyPlanner$Ordering" "changes" "[I", Cond.fieldLink RX1 39 "AssemblyPlanner$Ordering" "fewest" "I", Cond.methodLink RX1 57 yX3_all, Cond.instanceMethod yX3_all, Cond.selects RX3 yX3_all yX3_all, Cond.initialized RX3, Cond.code yX3_all cX3_all 1 (some .int), Cond.fieldLink RX3 21 "AssemblyPlanner$Product" "count" "I", Cond.methodLink RX1 60 yX3_sound, Cond.instanceMethod yX3_sound, Cond.selects RX3 yX3_sound yX3_sound, Cond.code yX3_sound cX3_sound 2 (some .boolean), Cond.fieldLink RX3 41 "AssemblyPlanner$Product" "steadyAsked" "Z", Cond.methodLink RX3 49 yX3_connected, Cond.instanceMethod yX3_connected, Cond.selects RX3 yX3_connected yX3_connected, Cond.code yX3_connected cX3_connected 3 (some .boolean), Cond.fieldLink RX3 15 "AssemblyPlanner$Product" "contacts" "[I", Cond.methodLink RX3 45 yX3_reached]
def wsX1_find_r2 : List Cond := [Cond.static yX3_reached, Cond.code yX3_reached cX3_reached 7 (some .int), Cond.methodLink RX3 53 yX3_steady, Cond.instanceMethod yX3_steady, Cond.selects RX3 yX3_steady yX3_steady, Cond.code yX3_steady cX3_steady 2 (some .boolean), Cond.fieldLink RX3 18 "AssemblyPlanner$Product" "hinderers" "[I", Cond.fieldLink RX3 38 "AssemblyPlanner$Product" "base" "I", Cond.methodLink RX1 63 yX1_nextsOf, Cond.instanceMethod yX1_nextsOf, Cond.selects RX1 yX1_nextsOf yX1_nextsOf, Cond.initialized RX1, Cond.code yX1_nextsOf cX1_nextsOf 5 (some .int), Cond.methodLink RX1 51 yX3_count, Cond.instanceMethod yX3_count, Cond.selects RX3 yX3_count yX3_count, Cond.code yX3_count cX3_count 1 (some .int), Cond.methodLink RX1 76 yX3_freeDirections, Cond.instanceMethod yX3_freeDirections, Cond.selects RX3 yX3_freeDirections yX3_freeDirections, Cond.code yX3_freeDirections cX3_freeDirections 5 (some .int), Cond.methodLink RX1 66 yX1_ordersFrom, Cond.instanceMethod yX1_ordersFrom, Cond.selects RX1 yX1_ordersFrom yX1_ordersFrom]
def wsX1_find_r3 : List Cond := [Cond.code yX1_ordersFrom cX1_ordersFrom 4 (some .int), Cond.methodLink RX1 69 yX1_fewestFrom, Cond.instanceMethod yX1_fewestFrom, Cond.selects RX1 yX1_fewestFrom yX1_fewestFrom, Cond.code yX1_fewestFrom cX1_fewestFrom 5 (some .int), Cond.methodLink RX1 83 Lib.Math.min.name, Cond.static Lib.Math.min.name, Cond.initialized "java/lang/Math", Cond.code Lib.Math.min.name Lib.Math.min.code 2 (some .int), Cond.methodLink RX1 79 yX1_changesWith, Cond.instanceMethod yX1_changesWith, Cond.selects RX1 yX1_changesWith yX1_changesWith, Cond.code yX1_changesWith cX1_changesWith 5 (some .int), Cond.methodLink RX1 88 yX3_tool, Cond.instanceMethod yX3_tool, Cond.selects RX3 yX3_tool yX3_tool, Cond.code yX3_tool cX3_tool 2 (some .int), Cond.fieldLink RX3 9 "AssemblyPlanner$Product" "tools" "[I", Cond.methodLink RX1 91 yX1_change, Cond.static yX1_change, Cond.code yX1_change cX1_change 2 (some .int), Cond.methodLink RX1 73 yX1_findBest, Cond.instanceMethod yX1_findBest, Cond.selects RX1 yX1_findBest yX1_findBest]
def wsX1_find_r4 : List Cond := [Cond.code yX1_findBest cX1_findBest 6 none, Cond.fieldLink RX1 25 "AssemblyPlanner$Ordering" "best" "[I", Cond.methodLink RX1 94 yX1_leastNext, Cond.instanceMethod yX1_leastNext, Cond.selects RX1 yX1_leastNext yX1_leastNext, Cond.code yX1_leastNext cX1_leastNext 5 (some .int)]
def wsX1_find : List Cond := .code yX1_find cX1_find 3 none :: ((wsX1_find_r1 ++ (wsX1_find_r2 ++ (wsX1_find_r3 ++ wsX1_find_r4))) ++ wsX10 ++ wsX30)
def wsX1_possible_r1 : List Cond := [Cond.fieldLink RX1 19 "AssemblyPlanner$Ordering" "orders" "[I", Cond.methodLink RX1 36 yX1_find, Cond.instanceMethod yX1_find, Cond.selects RX1 yX1_find yX1_find, Cond.initialized RX1, Cond.code yX1_find cX1_find 3 none, Cond.fieldLink RX1 32 "AssemblyPlanner$Ordering" "known" "Z", Cond.fieldLink RX1 28 "AssemblyPlanner$Ordering" "product" "LAssemblyPlanner$Product;", Cond.fieldLink RX1 9 "AssemblyPlanner$Ordering" "sound" "[Z", Cond.fieldLink RX1 15 "AssemblyPlanner$Ordering" "nexts" "[I", Cond.fieldLink RX1 22 "AssemblyPlanner$Ordering" "changes" "[I", Cond.fieldLink RX1 39 "AssemblyPlanner$Ordering" "fewest" "I", Cond.methodLink RX1 57 yX3_all, Cond.instanceMethod yX3_all, Cond.selects RX3 yX3_all yX3_all, Cond.initialized RX3, Cond.code yX3_all cX3_all 1 (some .int), Cond.fieldLink RX3 21 "AssemblyPlanner$Product" "count" "I", Cond.methodLink RX1 60 yX3_sound, Cond.instanceMethod yX3_sound, Cond.selects RX3 yX3_sound yX3_sound, Cond.code yX3_sound cX3_sound 2 (some .boolean), Cond.fieldLink RX3 41 "AssemblyPlanner$Product" "steadyAsked" "Z", Cond.methodLink RX3 49 yX3_connected]
def wsX1_possible_r2 : List Cond := [Cond.instanceMethod yX3_connected, Cond.selects RX3 yX3_connected yX3_connected, Cond.code yX3_connected cX3_connected 3 (some .boolean), Cond.fieldLink RX3 15 "AssemblyPlanner$Product" "contacts" "[I", Cond.methodLink RX3 45 yX3_reached, Cond.static yX3_reached, Cond.code yX3_reached cX3_reached 7 (some .int), Cond.methodLink RX3 53 yX3_steady, Cond.instanceMethod yX3_steady, Cond.selects RX3 yX3_steady yX3_steady, Cond.code yX3_steady cX3_steady 2 (some .boolean), Cond.fieldLink RX3 18 "AssemblyPlanner$Product" "hinderers" "[I", Cond.fieldLink RX3 38 "AssemblyPlanner$Product" "base" "I", Cond.methodLink RX1 63 yX1_nextsOf, Cond.instanceMethod yX1_nextsOf, Cond.selects RX1 yX1_nextsOf yX1_nextsOf, Cond.code yX1_nextsOf cX1_nextsOf 5 (some .int), Cond.methodLink RX1 51 yX3_count, Cond.instanceMethod yX3_count, Cond.selects RX3 yX3_count yX3_count, Cond.code yX3_count cX3_count 1 (some .int), Cond.methodLink RX1 76 yX3_freeDirections, Cond.instanceMethod yX3_freeDirections, Cond.selects RX3 yX3_freeDirections yX3_freeDirections]
def wsX1_possible_r3 : List Cond := [Cond.code yX3_freeDirections cX3_freeDirections 5 (some .int), Cond.methodLink RX1 66 yX1_ordersFrom, Cond.instanceMethod yX1_ordersFrom, Cond.selects RX1 yX1_ordersFrom yX1_ordersFrom, Cond.code yX1_ordersFrom cX1_ordersFrom 4 (some .int), Cond.methodLink RX1 69 yX1_fewestFrom, Cond.instanceMethod yX1_fewestFrom, Cond.selects RX1 yX1_fewestFrom yX1_fewestFrom, Cond.code yX1_fewestFrom cX1_fewestFrom 5 (some .int), Cond.methodLink RX1 83 Lib.Math.min.name, Cond.static Lib.Math.min.name, Cond.initialized "java/lang/Math", Cond.code Lib.Math.min.name Lib.Math.min.code 2 (some .int), Cond.methodLink RX1 79 yX1_changesWith, Cond.instanceMethod yX1_changesWith, Cond.selects RX1 yX1_changesWith yX1_changesWith, Cond.code yX1_changesWith cX1_changesWith 5 (some .int), Cond.methodLink RX1 88 yX3_tool, Cond.instanceMethod yX3_tool, Cond.selects RX3 yX3_tool yX3_tool, Cond.code yX3_tool cX3_tool 2 (some .int), Cond.fieldLink RX3 9 "AssemblyPlanner$Product" "tools" "[I", Cond.methodLink RX1 91 yX1_change, Cond.static yX1_change]
def wsX1_possible_r4 : List Cond := [Cond.code yX1_change cX1_change 2 (some .int), Cond.methodLink RX1 73 yX1_findBest, Cond.instanceMethod yX1_findBest, Cond.selects RX1 yX1_findBest yX1_findBest, Cond.code yX1_findBest cX1_findBest 6 none, Cond.fieldLink RX1 25 "AssemblyPlanner$Ordering" "best" "[I", Cond.methodLink RX1 94 yX1_leastNext, Cond.instanceMethod yX1_leastNext, Cond.selects RX1 yX1_leastNext yX1_leastNext, Cond.code yX1_leastNext cX1_leastNext 5 (some .int)]
def wsX1_possible : List Cond := .code yX1_possible cX1_possible 1 (some .int) :: ((wsX1_possible_r1 ++ (wsX1_possible_r2 ++ (wsX1_possible_r3 ++ wsX1_possible_r4))) ++ wsX10 ++ wsX30)
def wsX1_orNone : List Cond := .code yX1_orNone cX1_orNone 1 (some .int) :: ([])
def wsX1_fewestBySets_r1 : List Cond := [Cond.fieldLink RX1 39 "AssemblyPlanner$Ordering" "fewest" "I", Cond.methodLink RX1 36 yX1_find, Cond.instanceMethod yX1_find, Cond.selects RX1 yX1_find yX1_find, Cond.initialized RX1, Cond.code yX1_find cX1_find 3 none, Cond.fieldLink RX1 32 "AssemblyPlanner$Ordering" "known" "Z", Cond.fieldLink RX1 28 "AssemblyPlanner$Ordering" "product" "LAssemblyPlanner$Product;", Cond.fieldLink RX1 9 "AssemblyPlanner$Ordering" "sound" "[Z", Cond.fieldLink RX1 15 "AssemblyPlanner$Ordering" "nexts" "[I", Cond.fieldLink RX1 19 "AssemblyPlanner$Ordering" "orders" "[I", Cond.fieldLink RX1 22 "AssemblyPlanner$Ordering" "changes" "[I", Cond.methodLink RX1 57 yX3_all, Cond.instanceMethod yX3_all, Cond.selects RX3 yX3_all yX3_all, Cond.initialized RX3, Cond.code yX3_all cX3_all 1 (some .int), Cond.fieldLink RX3 21 "AssemblyPlanner$Product" "count" "I", Cond.methodLink RX1 60 yX3_sound, Cond.instanceMethod yX3_sound, Cond.selects RX3 yX3_sound yX3_sound, Cond.code yX3_sound cX3_sound 2 (some .boolean), Cond.fieldLink RX3 41 "AssemblyPlanner$Product" "steadyAsked" "Z", Cond.methodLink RX3 49 yX3_connected]
def wsX1_fewestBySets_r2 : List Cond := [Cond.instanceMethod yX3_connected, Cond.selects RX3 yX3_connected yX3_connected, Cond.code yX3_connected cX3_connected 3 (some .boolean), Cond.fieldLink RX3 15 "AssemblyPlanner$Product" "contacts" "[I", Cond.methodLink RX3 45 yX3_reached, Cond.static yX3_reached, Cond.code yX3_reached cX3_reached 7 (some .int), Cond.methodLink RX3 53 yX3_steady, Cond.instanceMethod yX3_steady, Cond.selects RX3 yX3_steady yX3_steady, Cond.code yX3_steady cX3_steady 2 (some .boolean), Cond.fieldLink RX3 18 "AssemblyPlanner$Product" "hinderers" "[I", Cond.fieldLink RX3 38 "AssemblyPlanner$Product" "base" "I", Cond.methodLink RX1 63 yX1_nextsOf, Cond.instanceMethod yX1_nextsOf, Cond.selects RX1 yX1_nextsOf yX1_nextsOf, Cond.code yX1_nextsOf cX1_nextsOf 5 (some .int), Cond.methodLink RX1 51 yX3_count, Cond.instanceMethod yX3_count, Cond.selects RX3 yX3_count yX3_count, Cond.code yX3_count cX3_count 1 (some .int), Cond.methodLink RX1 76 yX3_freeDirections, Cond.instanceMethod yX3_freeDirections, Cond.selects RX3 yX3_freeDirections yX3_freeDirections]
def wsX1_fewestBySets_r3 : List Cond := [Cond.code yX3_freeDirections cX3_freeDirections 5 (some .int), Cond.methodLink RX1 66 yX1_ordersFrom, Cond.instanceMethod yX1_ordersFrom, Cond.selects RX1 yX1_ordersFrom yX1_ordersFrom, Cond.code yX1_ordersFrom cX1_ordersFrom 4 (some .int), Cond.methodLink RX1 69 yX1_fewestFrom, Cond.instanceMethod yX1_fewestFrom, Cond.selects RX1 yX1_fewestFrom yX1_fewestFrom, Cond.code yX1_fewestFrom cX1_fewestFrom 5 (some .int), Cond.methodLink RX1 83 Lib.Math.min.name, Cond.static Lib.Math.min.name, Cond.initialized "java/lang/Math", Cond.code Lib.Math.min.name Lib.Math.min.code 2 (some .int), Cond.methodLink RX1 79 yX1_changesWith, Cond.instanceMethod yX1_changesWith, Cond.selects RX1 yX1_changesWith yX1_changesWith, Cond.code yX1_changesWith cX1_changesWith 5 (some .int), Cond.methodLink RX1 88 yX3_tool, Cond.instanceMethod yX3_tool, Cond.selects RX3 yX3_tool yX3_tool, Cond.code yX3_tool cX3_tool 2 (some .int), Cond.fieldLink RX3 9 "AssemblyPlanner$Product" "tools" "[I", Cond.methodLink RX1 91 yX1_change, Cond.static yX1_change]
def wsX1_fewestBySets_r4 : List Cond := [Cond.code yX1_change cX1_change 2 (some .int), Cond.methodLink RX1 73 yX1_findBest, Cond.instanceMethod yX1_findBest, Cond.selects RX1 yX1_findBest yX1_findBest, Cond.code yX1_findBest cX1_findBest 6 none, Cond.fieldLink RX1 25 "AssemblyPlanner$Ordering" "best" "[I", Cond.methodLink RX1 94 yX1_leastNext, Cond.instanceMethod yX1_leastNext, Cond.selects RX1 yX1_leastNext yX1_leastNext, Cond.code yX1_leastNext cX1_leastNext 5 (some .int), Cond.methodLink RX1 43 yX1_orNone, Cond.static yX1_orNone, Cond.code yX1_orNone cX1_orNone 1 (some .int)]
def wsX1_fewestBySets : List Cond := .code yX1_fewestBySets cX1_fewestBySets 1 (some .int) :: ((wsX1_fewestBySets_r1 ++ (wsX1_fewestBySets_r2 ++ (wsX1_fewestBySets_r3 ++ wsX1_fewestBySets_r4))) ++ wsX10 ++ wsX30)
def wsX1_listed : List Cond := .code yX1_listed cX1_listed 8 (some .int) :: ([.fieldLink RX1 28 "AssemblyPlanner$Ordering" "product" "LAssemblyPlanner$Product;", .fieldLink RX1 15 "AssemblyPlanner$Ordering" "nexts" "[I", .methodLink RX1 83 Lib.Math.min.name, .static Lib.Math.min.name, .initialized "java/lang/Math", .code Lib.Math.min.name Lib.Math.min.code 2 (some .int), .methodLink RX1 51 yX3_count, .instanceMethod yX3_count, .selects RX3 yX3_count yX3_count, .initialized RX3, .code yX3_count cX3_count 1 (some .int), .fieldLink RX3 21 "AssemblyPlanner$Product" "count" "I", .methodLink RX1 88 yX3_tool, .instanceMethod yX3_tool, .selects RX3 yX3_tool yX3_tool, .code yX3_tool cX3_tool 2 (some .int), .fieldLink RX3 9 "AssemblyPlanner$Product" "tools" "[I", .methodLink RX1 47 yX1_listed, .static yX1_listed, .initialized RX1, .methodLink RX1 91 yX1_change, .static yX1_change, .code yX1_change cX1_change 2 (some .int)] ++ wsX10 ++ wsX30)
def wsX1_fewestListed_r1 : List Cond := [Cond.methodLink RX1 36 yX1_find, Cond.instanceMethod yX1_find, Cond.selects RX1 yX1_find yX1_find, Cond.initialized RX1, Cond.code yX1_find cX1_find 3 none, Cond.fieldLink RX1 32 "AssemblyPlanner$Ordering" "known" "Z", Cond.fieldLink RX1 28 "AssemblyPlanner$Ordering" "product" "LAssemblyPlanner$Product;", Cond.fieldLink RX1 9 "AssemblyPlanner$Ordering" "sound" "[Z", Cond.fieldLink RX1 15 "AssemblyPlanner$Ordering" "nexts" "[I", Cond.fieldLink RX1 19 "AssemblyPlanner$Ordering" "orders" "[I", Cond.fieldLink RX1 22 "AssemblyPlanner$Ordering" "changes" "[I", Cond.fieldLink RX1 39 "AssemblyPlanner$Ordering" "fewest" "I", Cond.methodLink RX1 57 yX3_all, Cond.instanceMethod yX3_all, Cond.selects RX3 yX3_all yX3_all, Cond.initialized RX3, Cond.code yX3_all cX3_all 1 (some .int), Cond.fieldLink RX3 21 "AssemblyPlanner$Product" "count" "I", Cond.methodLink RX1 60 yX3_sound, Cond.instanceMethod yX3_sound, Cond.selects RX3 yX3_sound yX3_sound, Cond.code yX3_sound cX3_sound 2 (some .boolean), Cond.fieldLink RX3 41 "AssemblyPlanner$Product" "steadyAsked" "Z", Cond.methodLink RX3 49 yX3_connected]
def wsX1_fewestListed_r2 : List Cond := [Cond.instanceMethod yX3_connected, Cond.selects RX3 yX3_connected yX3_connected, Cond.code yX3_connected cX3_connected 3 (some .boolean), Cond.fieldLink RX3 15 "AssemblyPlanner$Product" "contacts" "[I", Cond.methodLink RX3 45 yX3_reached, Cond.static yX3_reached, Cond.code yX3_reached cX3_reached 7 (some .int), Cond.methodLink RX3 53 yX3_steady, Cond.instanceMethod yX3_steady, Cond.selects RX3 yX3_steady yX3_steady, Cond.code yX3_steady cX3_steady 2 (some .boolean), Cond.fieldLink RX3 18 "AssemblyPlanner$Product" "hinderers" "[I", Cond.fieldLink RX3 38 "AssemblyPlanner$Product" "base" "I", Cond.methodLink RX1 63 yX1_nextsOf, Cond.instanceMethod yX1_nextsOf, Cond.selects RX1 yX1_nextsOf yX1_nextsOf, Cond.code yX1_nextsOf cX1_nextsOf 5 (some .int), Cond.methodLink RX1 51 yX3_count, Cond.instanceMethod yX3_count, Cond.selects RX3 yX3_count yX3_count, Cond.code yX3_count cX3_count 1 (some .int), Cond.methodLink RX1 76 yX3_freeDirections, Cond.instanceMethod yX3_freeDirections, Cond.selects RX3 yX3_freeDirections yX3_freeDirections]
def wsX1_fewestListed_r3 : List Cond := [Cond.code yX3_freeDirections cX3_freeDirections 5 (some .int), Cond.methodLink RX1 66 yX1_ordersFrom, Cond.instanceMethod yX1_ordersFrom, Cond.selects RX1 yX1_ordersFrom yX1_ordersFrom, Cond.code yX1_ordersFrom cX1_ordersFrom 4 (some .int), Cond.methodLink RX1 69 yX1_fewestFrom, Cond.instanceMethod yX1_fewestFrom, Cond.selects RX1 yX1_fewestFrom yX1_fewestFrom, Cond.code yX1_fewestFrom cX1_fewestFrom 5 (some .int), Cond.methodLink RX1 83 Lib.Math.min.name, Cond.static Lib.Math.min.name, Cond.initialized "java/lang/Math", Cond.code Lib.Math.min.name Lib.Math.min.code 2 (some .int), Cond.methodLink RX1 79 yX1_changesWith, Cond.instanceMethod yX1_changesWith, Cond.selects RX1 yX1_changesWith yX1_changesWith, Cond.code yX1_changesWith cX1_changesWith 5 (some .int), Cond.methodLink RX1 88 yX3_tool, Cond.instanceMethod yX3_tool, Cond.selects RX3 yX3_tool yX3_tool, Cond.code yX3_tool cX3_tool 2 (some .int), Cond.fieldLink RX3 9 "AssemblyPlanner$Product" "tools" "[I", Cond.methodLink RX1 91 yX1_change, Cond.static yX1_change]
def wsX1_fewestListed_r4 : List Cond := [Cond.code yX1_change cX1_change 2 (some .int), Cond.methodLink RX1 73 yX1_findBest, Cond.instanceMethod yX1_findBest, Cond.selects RX1 yX1_findBest yX1_findBest, Cond.code yX1_findBest cX1_findBest 6 none, Cond.fieldLink RX1 25 "AssemblyPlanner$Ordering" "best" "[I", Cond.methodLink RX1 94 yX1_leastNext, Cond.instanceMethod yX1_leastNext, Cond.selects RX1 yX1_leastNext yX1_leastNext, Cond.code yX1_leastNext cX1_leastNext 5 (some .int), Cond.methodLink RX1 47 yX1_listed, Cond.static yX1_listed, Cond.code yX1_listed cX1_listed 8 (some .int), Cond.methodLink RX1 43 yX1_orNone, Cond.static yX1_orNone, Cond.code yX1_orNone cX1_orNone 1 (some .int)]
def wsX1_fewestListed : List Cond := .code yX1_fewestListed cX1_fewestListed 1 (some .int) :: ((wsX1_fewestListed_r1 ++ (wsX1_fewestListed_r2 ++ (wsX1_fewestListed_r3 ++ wsX1_fewestListed_r4))) ++ wsX10 ++ wsX30)
def wsX1_bestAt_r1 : List Cond := [Cond.fieldLink RX1 28 "AssemblyPlanner$Ordering" "product" "LAssemblyPlanner$Product;", Cond.fieldLink RX1 39 "AssemblyPlanner$Ordering" "fewest" "I", Cond.fieldLink RX1 25 "AssemblyPlanner$Ordering" "best" "[I", Cond.methodLink RX1 51 yX3_count, Cond.instanceMethod yX3_count, Cond.selects RX3 yX3_count yX3_count, Cond.initialized RX3, Cond.code yX3_count cX3_count 1 (some .int), Cond.fieldLink RX3 21 "AssemblyPlanner$Product" "count" "I", Cond.methodLink RX1 36 yX1_find, Cond.instanceMethod yX1_find, Cond.selects RX1 yX1_find yX1_find, Cond.initialized RX1, Cond.code yX1_find cX1_find 3 none, Cond.fieldLink RX1 32 "AssemblyPlanner$Ordering" "known" "Z", Cond.fieldLink RX1 9 "AssemblyPlanner$Ordering" "sound" "[Z", Cond.fieldLink RX1 15 "AssemblyPlanner$Ordering" "nexts" "[I", Cond.fieldLink RX1 19 "AssemblyPlanner$Ordering" "orders" "[I", Cond.fieldLink RX1 22 "AssemblyPlanner$Ordering" "changes" "[I", Cond.methodLink RX1 57 yX3_all, Cond.instanceMethod yX3_all, Cond.selects RX3 yX3_all yX3_all, Cond.code yX3_all cX3_all 1 (some .int), Cond.methodLink RX1 60 yX3_sound]
def wsX1_bestAt_r2 : List Cond := [Cond.instanceMethod yX3_sound, Cond.selects RX3 yX3_sound yX3_sound, Cond.code yX3_sound cX3_sound 2 (some .boolean), Cond.fieldLink RX3 41 "AssemblyPlanner$Product" "steadyAsked" "Z", Cond.methodLink RX3 49 yX3_connected, Cond.instanceMethod yX3_connected, Cond.selects RX3 yX3_connected yX3_connected, Cond.code yX3_connected cX3_connected 3 (some .boolean), Cond.fieldLink RX3 15 "AssemblyPlanner$Product" "contacts" "[I", Cond.methodLink RX3 45 yX3_reached, Cond.static yX3_reached, Cond.code yX3_reached cX3_reached 7 (some .int), Cond.methodLink RX3 53 yX3_steady, Cond.instanceMethod yX3_steady, Cond.selects RX3 yX3_steady yX3_steady, Cond.code yX3_steady cX3_steady 2 (some .boolean), Cond.fieldLink RX3 18 "AssemblyPlanner$Product" "hinderers" "[I", Cond.fieldLink RX3 38 "AssemblyPlanner$Product" "base" "I", Cond.methodLink RX1 63 yX1_nextsOf, Cond.instanceMethod yX1_nextsOf, Cond.selects RX1 yX1_nextsOf yX1_nextsOf, Cond.code yX1_nextsOf cX1_nextsOf 5 (some .int), Cond.methodLink RX1 76 yX3_freeDirections, Cond.instanceMethod yX3_freeDirections]
def wsX1_bestAt_r3 : List Cond := [Cond.selects RX3 yX3_freeDirections yX3_freeDirections, Cond.code yX3_freeDirections cX3_freeDirections 5 (some .int), Cond.methodLink RX1 66 yX1_ordersFrom, Cond.instanceMethod yX1_ordersFrom, Cond.selects RX1 yX1_ordersFrom yX1_ordersFrom, Cond.code yX1_ordersFrom cX1_ordersFrom 4 (some .int), Cond.methodLink RX1 69 yX1_fewestFrom, Cond.instanceMethod yX1_fewestFrom, Cond.selects RX1 yX1_fewestFrom yX1_fewestFrom, Cond.code yX1_fewestFrom cX1_fewestFrom 5 (some .int), Cond.methodLink RX1 83 Lib.Math.min.name, Cond.static Lib.Math.min.name, Cond.initialized "java/lang/Math", Cond.code Lib.Math.min.name Lib.Math.min.code 2 (some .int), Cond.methodLink RX1 79 yX1_changesWith, Cond.instanceMethod yX1_changesWith, Cond.selects RX1 yX1_changesWith yX1_changesWith, Cond.code yX1_changesWith cX1_changesWith 5 (some .int), Cond.methodLink RX1 88 yX3_tool, Cond.instanceMethod yX3_tool, Cond.selects RX3 yX3_tool yX3_tool, Cond.code yX3_tool cX3_tool 2 (some .int), Cond.fieldLink RX3 9 "AssemblyPlanner$Product" "tools" "[I", Cond.methodLink RX1 91 yX1_change]
def wsX1_bestAt_r4 : List Cond := [Cond.static yX1_change, Cond.code yX1_change cX1_change 2 (some .int), Cond.methodLink RX1 73 yX1_findBest, Cond.instanceMethod yX1_findBest, Cond.selects RX1 yX1_findBest yX1_findBest, Cond.code yX1_findBest cX1_findBest 6 none, Cond.methodLink RX1 94 yX1_leastNext, Cond.instanceMethod yX1_leastNext, Cond.selects RX1 yX1_leastNext yX1_leastNext, Cond.code yX1_leastNext cX1_leastNext 5 (some .int)]
def wsX1_bestAt : List Cond := .code yX1_bestAt cX1_bestAt 2 (some .int) :: ((wsX1_bestAt_r1 ++ (wsX1_bestAt_r2 ++ (wsX1_bestAt_r3 ++ wsX1_bestAt_r4))) ++ wsX10 ++ wsX30)
def wsX2_init : List Cond := .code yX2_init cX2_init 2 none :: ([.methodLink RX2 3 objectInit, .instanceMethod objectInit, .code objectInit ⟨#[0xb1]⟩ 1 none, .arrayClass .boolean, .fieldLink RX2 9 "AssemblyPlanner$Parting" "connected" "[Z", .arrayClass .int, .fieldLink RX2 15 "AssemblyPlanner$Parting" "splits" "[I", .fieldLink RX2 19 "AssemblyPlanner$Parting" "ways" "[I", .fieldLink RX2 22 "AssemblyPlanner$Parting" "depths" "[I", .fieldLink RX2 25 "AssemblyPlanner$Parting" "product" "LAssemblyPlanner$Product;"] ++ wsX20)
def wsX2_forget : List Cond := .code yX2_forget cX2_forget 1 none :: ([.fieldLink RX2 29 "AssemblyPlanner$Parting" "known" "Z"] ++ wsX20)
def wsX3_hindered : List Cond := .code yX3_hindered cX3_hindered 5 (some .boolean) :: ([.fieldLink RX3 21 "AssemblyPlanner$Product" "count" "I", .fieldLink RX3 18 "AssemblyPlanner$Product" "hinderers" "[I"] ++ wsX30)
def wsX3_separable : List Cond := .code yX3_separable cX3_separable 4 (some .boolean) :: ([.methodLink RX3 73 yX3_hindered, .instanceMethod yX3_hindered, .selects RX3 yX3_hindered yX3_hindered, .initialized RX3, .code yX3_hindered cX3_hindered 5 (some .boolean), .fieldLink RX3 21 "AssemblyPlanner$Product" "count" "I", .fieldLink RX3 18 "AssemblyPlanner$Product" "hinderers" "[I"] ++ wsX30)
def wsX2_isSplit : List Cond := .code yX2_isSplit cX2_isSplit 3 (some .boolean) :: ([.fieldLink RX2 9 "AssemblyPlanner$Parting" "connected" "[Z", .fieldLink RX2 25 "AssemblyPlanner$Parting" "product" "LAssemblyPlanner$Product;", .methodLink RX2 57 yX3_separable, .instanceMethod yX3_separable, .selects RX3 yX3_separable yX3_separable, .initialized RX3, .code yX3_separable cX3_separable 4 (some .boolean), .methodLink RX3 73 yX3_hindered, .instanceMethod yX3_hindered, .selects RX3 yX3_hindered yX3_hindered, .code yX3_hindered cX3_hindered 5 (some .boolean), .fieldLink RX3 21 "AssemblyPlanner$Product" "count" "I", .fieldLink RX3 18 "AssemblyPlanner$Product" "hinderers" "[I"] ++ wsX20 ++ wsX30)
def wsX2_addSplit : List Cond := .code yX2_addSplit cX2_addSplit 5 none :: ([.fieldLink RX2 15 "AssemblyPlanner$Parting" "splits" "[I", .fieldLink RX2 19 "AssemblyPlanner$Parting" "ways" "[I", .fieldLink RX2 22 "AssemblyPlanner$Parting" "depths" "[I", .methodLink RX2 60 Lib.Math.max.name, .static Lib.Math.max.name, .initialized "java/lang/Math", .code Lib.Math.max.name Lib.Math.max.code 2 (some .int), .methodLink RX2 66 Lib.Math.min.name, .static Lib.Math.min.name, .code Lib.Math.min.name Lib.Math.min.code 2 (some .int)] ++ wsX20)
def wsX2_findFor_r1 : List Cond := [Cond.fieldLink RX2 15 "AssemblyPlanner$Parting" "splits" "[I", Cond.fieldLink RX2 19 "AssemblyPlanner$Parting" "ways" "[I", Cond.fieldLink RX2 22 "AssemblyPlanner$Parting" "depths" "[I", Cond.fieldLink RX2 9 "AssemblyPlanner$Parting" "connected" "[Z", Cond.methodLink RX2 49 yX2_isSplit, Cond.instanceMethod yX2_isSplit, Cond.selects RX2 yX2_isSplit yX2_isSplit, Cond.initialized RX2, Cond.code yX2_isSplit cX2_isSplit 3 (some .boolean), Cond.fieldLink RX2 25 "AssemblyPlanner$Parting" "product" "LAssemblyPlanner$Product;", Cond.methodLink RX2 57 yX3_separable, Cond.instanceMethod yX3_separable, Cond.selects RX3 yX3_separable yX3_separable, Cond.initialized RX3, Cond.code yX3_separable cX3_separable 4 (some .boolean), Cond.methodLink RX3 73 yX3_hindered, Cond.instanceMethod yX3_hindered, Cond.selects RX3 yX3_hindered yX3_hindered, Cond.code yX3_hindered cX3_hindered 5 (some .boolean), Cond.fieldLink RX3 21 "AssemblyPlanner$Product" "count" "I", Cond.fieldLink RX3 18 "AssemblyPlanner$Product" "hinderers" "[I", Cond.methodLink RX2 53 yX2_addSplit, Cond.instanceMethod yX2_addSplit, Cond.selects RX2 yX2_addSplit yX2_addSplit]
def wsX2_findFor_r2 : List Cond := [Cond.code yX2_addSplit cX2_addSplit 5 none, Cond.methodLink RX2 60 Lib.Math.max.name, Cond.static Lib.Math.max.name, Cond.initialized "java/lang/Math", Cond.code Lib.Math.max.name Lib.Math.max.code 2 (some .int), Cond.methodLink RX2 66 Lib.Math.min.name, Cond.static Lib.Math.min.name, Cond.code Lib.Math.min.name Lib.Math.min.code 2 (some .int)]
def wsX2_findFor : List Cond := .code yX2_findFor cX2_findFor 4 none :: ((wsX2_findFor_r1 ++ wsX2_findFor_r2) ++ wsX20 ++ wsX30)
def wsX2_find_r1 : List Cond := [Cond.fieldLink RX2 29 "AssemblyPlanner$Parting" "known" "Z", Cond.fieldLink RX2 25 "AssemblyPlanner$Parting" "product" "LAssemblyPlanner$Product;", Cond.fieldLink RX2 9 "AssemblyPlanner$Parting" "connected" "[Z", Cond.methodLink RX2 36 yX3_all, Cond.instanceMethod yX3_all, Cond.selects RX3 yX3_all yX3_all, Cond.initialized RX3, Cond.code yX3_all cX3_all 1 (some .int), Cond.fieldLink RX3 21 "AssemblyPlanner$Product" "count" "I", Cond.methodLink RX2 42 yX3_connected, Cond.instanceMethod yX3_connected, Cond.selects RX3 yX3_connected yX3_connected, Cond.code yX3_connected cX3_connected 3 (some .boolean), Cond.fieldLink RX3 15 "AssemblyPlanner$Product" "contacts" "[I", Cond.methodLink RX3 45 yX3_reached, Cond.static yX3_reached, Cond.code yX3_reached cX3_reached 7 (some .int), Cond.methodLink RX2 45 yX2_findFor, Cond.instanceMethod yX2_findFor, Cond.selects RX2 yX2_findFor yX2_findFor, Cond.initialized RX2, Cond.code yX2_findFor cX2_findFor 4 none, Cond.fieldLink RX2 15 "AssemblyPlanner$Parting" "splits" "[I", Cond.fieldLink RX2 19 "AssemblyPlanner$Parting" "ways" "[I"]
def wsX2_find_r2 : List Cond := [Cond.fieldLink RX2 22 "AssemblyPlanner$Parting" "depths" "[I", Cond.methodLink RX2 49 yX2_isSplit, Cond.instanceMethod yX2_isSplit, Cond.selects RX2 yX2_isSplit yX2_isSplit, Cond.code yX2_isSplit cX2_isSplit 3 (some .boolean), Cond.methodLink RX2 57 yX3_separable, Cond.instanceMethod yX3_separable, Cond.selects RX3 yX3_separable yX3_separable, Cond.code yX3_separable cX3_separable 4 (some .boolean), Cond.methodLink RX3 73 yX3_hindered, Cond.instanceMethod yX3_hindered, Cond.selects RX3 yX3_hindered yX3_hindered, Cond.code yX3_hindered cX3_hindered 5 (some .boolean), Cond.fieldLink RX3 18 "AssemblyPlanner$Product" "hinderers" "[I", Cond.methodLink RX2 53 yX2_addSplit, Cond.instanceMethod yX2_addSplit, Cond.selects RX2 yX2_addSplit yX2_addSplit, Cond.code yX2_addSplit cX2_addSplit 5 none, Cond.methodLink RX2 60 Lib.Math.max.name, Cond.static Lib.Math.max.name, Cond.initialized "java/lang/Math", Cond.code Lib.Math.max.name Lib.Math.max.code 2 (some .int), Cond.methodLink RX2 66 Lib.Math.min.name, Cond.static Lib.Math.min.name]
def wsX2_find_r3 : List Cond := [Cond.code Lib.Math.min.name Lib.Math.min.code 2 (some .int)]
def wsX2_find : List Cond := .code yX2_find cX2_find 2 none :: ((wsX2_find_r1 ++ (wsX2_find_r2 ++ wsX2_find_r3)) ++ wsX20 ++ wsX30)
def wsX2_splitsOf_r1 : List Cond := [Cond.fieldLink RX2 15 "AssemblyPlanner$Parting" "splits" "[I", Cond.methodLink RX2 33 yX2_find, Cond.instanceMethod yX2_find, Cond.selects RX2 yX2_find yX2_find, Cond.initialized RX2, Cond.code yX2_find cX2_find 2 none, Cond.fieldLink RX2 29 "AssemblyPlanner$Parting" "known" "Z", Cond.fieldLink RX2 25 "AssemblyPlanner$Parting" "product" "LAssemblyPlanner$Product;", Cond.fieldLink RX2 9 "AssemblyPlanner$Parting" "connected" "[Z", Cond.methodLink RX2 36 yX3_all, Cond.instanceMethod yX3_all, Cond.selects RX3 yX3_all yX3_all, Cond.initialized RX3, Cond.code yX3_all cX3_all 1 (some .int), Cond.fieldLink RX3 21 "AssemblyPlanner$Product" "count" "I", Cond.methodLink RX2 42 yX3_connected, Cond.instanceMethod yX3_connected, Cond.selects RX3 yX3_connected yX3_connected, Cond.code yX3_connected cX3_connected 3 (some .boolean), Cond.fieldLink RX3 15 "AssemblyPlanner$Product" "contacts" "[I", Cond.methodLink RX3 45 yX3_reached, Cond.static yX3_reached, Cond.code yX3_reached cX3_reached 7 (some .int), Cond.methodLink RX2 45 yX2_findFor]
def wsX2_splitsOf_r2 : List Cond := [Cond.instanceMethod yX2_findFor, Cond.selects RX2 yX2_findFor yX2_findFor, Cond.code yX2_findFor cX2_findFor 4 none, Cond.fieldLink RX2 19 "AssemblyPlanner$Parting" "ways" "[I", Cond.fieldLink RX2 22 "AssemblyPlanner$Parting" "depths" "[I", Cond.methodLink RX2 49 yX2_isSplit, Cond.instanceMethod yX2_isSplit, Cond.selects RX2 yX2_isSplit yX2_isSplit, Cond.code yX2_isSplit cX2_isSplit 3 (some .boolean), Cond.methodLink RX2 57 yX3_separable, Cond.instanceMethod yX3_separable, Cond.selects RX3 yX3_separable yX3_separable, Cond.code yX3_separable cX3_separable 4 (some .boolean), Cond.methodLink RX3 73 yX3_hindered, Cond.instanceMethod yX3_hindered, Cond.selects RX3 yX3_hindered yX3_hindered, Cond.code yX3_hindered cX3_hindered 5 (some .boolean), Cond.fieldLink RX3 18 "AssemblyPlanner$Product" "hinderers" "[I", Cond.methodLink RX2 53 yX2_addSplit, Cond.instanceMethod yX2_addSplit, Cond.selects RX2 yX2_addSplit yX2_addSplit, Cond.code yX2_addSplit cX2_addSplit 5 none, Cond.methodLink RX2 60 Lib.Math.max.name, Cond.static Lib.Math.max.name]
def wsX2_splitsOf_r3 : List Cond := [Cond.initialized "java/lang/Math", Cond.code Lib.Math.max.name Lib.Math.max.code 2 (some .int), Cond.methodLink RX2 66 Lib.Math.min.name, Cond.static Lib.Math.min.name, Cond.code Lib.Math.min.name Lib.Math.min.code 2 (some .int)]
def wsX2_splitsOf : List Cond := .code yX2_splitsOf cX2_splitsOf 2 (some .int) :: ((wsX2_splitsOf_r1 ++ (wsX2_splitsOf_r2 ++ wsX2_splitsOf_r3)) ++ wsX20 ++ wsX30)
def wsX2_waysOf_r1 : List Cond := [Cond.fieldLink RX2 19 "AssemblyPlanner$Parting" "ways" "[I", Cond.methodLink RX2 33 yX2_find, Cond.instanceMethod yX2_find, Cond.selects RX2 yX2_find yX2_find, Cond.initialized RX2, Cond.code yX2_find cX2_find 2 none, Cond.fieldLink RX2 29 "AssemblyPlanner$Parting" "known" "Z", Cond.fieldLink RX2 25 "AssemblyPlanner$Parting" "product" "LAssemblyPlanner$Product;", Cond.fieldLink RX2 9 "AssemblyPlanner$Parting" "connected" "[Z", Cond.methodLink RX2 36 yX3_all, Cond.instanceMethod yX3_all, Cond.selects RX3 yX3_all yX3_all, Cond.initialized RX3, Cond.code yX3_all cX3_all 1 (some .int), Cond.fieldLink RX3 21 "AssemblyPlanner$Product" "count" "I", Cond.methodLink RX2 42 yX3_connected, Cond.instanceMethod yX3_connected, Cond.selects RX3 yX3_connected yX3_connected, Cond.code yX3_connected cX3_connected 3 (some .boolean), Cond.fieldLink RX3 15 "AssemblyPlanner$Product" "contacts" "[I", Cond.methodLink RX3 45 yX3_reached, Cond.static yX3_reached, Cond.code yX3_reached cX3_reached 7 (some .int), Cond.methodLink RX2 45 yX2_findFor]
def wsX2_waysOf_r2 : List Cond := [Cond.instanceMethod yX2_findFor, Cond.selects RX2 yX2_findFor yX2_findFor, Cond.code yX2_findFor cX2_findFor 4 none, Cond.fieldLink RX2 15 "AssemblyPlanner$Parting" "splits" "[I", Cond.fieldLink RX2 22 "AssemblyPlanner$Parting" "depths" "[I", Cond.methodLink RX2 49 yX2_isSplit, Cond.instanceMethod yX2_isSplit, Cond.selects RX2 yX2_isSplit yX2_isSplit, Cond.code yX2_isSplit cX2_isSplit 3 (some .boolean), Cond.methodLink RX2 57 yX3_separable, Cond.instanceMethod yX3_separable, Cond.selects RX3 yX3_separable yX3_separable, Cond.code yX3_separable cX3_separable 4 (some .boolean), Cond.methodLink RX3 73 yX3_hindered, Cond.instanceMethod yX3_hindered, Cond.selects RX3 yX3_hindered yX3_hindered, Cond.code yX3_hindered cX3_hindered 5 (some .boolean), Cond.fieldLink RX3 18 "AssemblyPlanner$Product" "hinderers" "[I", Cond.methodLink RX2 53 yX2_addSplit, Cond.instanceMethod yX2_addSplit, Cond.selects RX2 yX2_addSplit yX2_addSplit, Cond.code yX2_addSplit cX2_addSplit 5 none, Cond.methodLink RX2 60 Lib.Math.max.name, Cond.static Lib.Math.max.name]
def wsX2_waysOf_r3 : List Cond := [Cond.initialized "java/lang/Math", Cond.code Lib.Math.max.name Lib.Math.max.code 2 (some .int), Cond.methodLink RX2 66 Lib.Math.min.name, Cond.static Lib.Math.min.name, Cond.code Lib.Math.min.name Lib.Math.min.code 2 (some .int)]
def wsX2_waysOf : List Cond := .code yX2_waysOf cX2_waysOf 2 (some .int) :: ((wsX2_waysOf_r1 ++ (wsX2_waysOf_r2 ++ wsX2_waysOf_r3)) ++ wsX20 ++ wsX30)
def wsX2_leastDepthOf_r1 : List Cond := [Cond.fieldLink RX2 22 "AssemblyPlanner$Parting" "depths" "[I", Cond.methodLink RX2 33 yX2_find, Cond.instanceMethod yX2_find, Cond.selects RX2 yX2_find yX2_find, Cond.initialized RX2, Cond.code yX2_find cX2_find 2 none, Cond.fieldLink RX2 29 "AssemblyPlanner$Parting" "known" "Z", Cond.fieldLink RX2 25 "AssemblyPlanner$Parting" "product" "LAssemblyPlanner$Product;", Cond.fieldLink RX2 9 "AssemblyPlanner$Parting" "connected" "[Z", Cond.methodLink RX2 36 yX3_all, Cond.instanceMethod yX3_all, Cond.selects RX3 yX3_all yX3_all, Cond.initialized RX3, Cond.code yX3_all cX3_all 1 (some .int), Cond.fieldLink RX3 21 "AssemblyPlanner$Product" "count" "I", Cond.methodLink RX2 42 yX3_connected, Cond.instanceMethod yX3_connected, Cond.selects RX3 yX3_connected yX3_connected, Cond.code yX3_connected cX3_connected 3 (some .boolean), Cond.fieldLink RX3 15 "AssemblyPlanner$Product" "contacts" "[I", Cond.methodLink RX3 45 yX3_reached, Cond.static yX3_reached, Cond.code yX3_reached cX3_reached 7 (some .int), Cond.methodLink RX2 45 yX2_findFor]
def wsX2_leastDepthOf_r2 : List Cond := [Cond.instanceMethod yX2_findFor, Cond.selects RX2 yX2_findFor yX2_findFor, Cond.code yX2_findFor cX2_findFor 4 none, Cond.fieldLink RX2 15 "AssemblyPlanner$Parting" "splits" "[I", Cond.fieldLink RX2 19 "AssemblyPlanner$Parting" "ways" "[I", Cond.methodLink RX2 49 yX2_isSplit, Cond.instanceMethod yX2_isSplit, Cond.selects RX2 yX2_isSplit yX2_isSplit, Cond.code yX2_isSplit cX2_isSplit 3 (some .boolean), Cond.methodLink RX2 57 yX3_separable, Cond.instanceMethod yX3_separable, Cond.selects RX3 yX3_separable yX3_separable, Cond.code yX3_separable cX3_separable 4 (some .boolean), Cond.methodLink RX3 73 yX3_hindered, Cond.instanceMethod yX3_hindered, Cond.selects RX3 yX3_hindered yX3_hindered, Cond.code yX3_hindered cX3_hindered 5 (some .boolean), Cond.fieldLink RX3 18 "AssemblyPlanner$Product" "hinderers" "[I", Cond.methodLink RX2 53 yX2_addSplit, Cond.instanceMethod yX2_addSplit, Cond.selects RX2 yX2_addSplit yX2_addSplit, Cond.code yX2_addSplit cX2_addSplit 5 none, Cond.methodLink RX2 60 Lib.Math.max.name, Cond.static Lib.Math.max.name]
def wsX2_leastDepthOf_r3 : List Cond := [Cond.initialized "java/lang/Math", Cond.code Lib.Math.max.name Lib.Math.max.code 2 (some .int), Cond.methodLink RX2 66 Lib.Math.min.name, Cond.static Lib.Math.min.name, Cond.code Lib.Math.min.name Lib.Math.min.code 2 (some .int)]
def wsX2_leastDepthOf : List Cond := .code yX2_leastDepthOf cX2_leastDepthOf 2 (some .int) :: ((wsX2_leastDepthOf_r1 ++ (wsX2_leastDepthOf_r2 ++ wsX2_leastDepthOf_r3)) ++ wsX20 ++ wsX30)
def wsX3_init : List Cond := .code yX3_init cX3_init 1 none :: ([.methodLink RX3 3 objectInit, .instanceMethod objectInit, .code objectInit ⟨#[0xb1]⟩ 1 none, .arrayClass .int, .fieldLink RX3 9 "AssemblyPlanner$Product" "tools" "[I", .fieldLink RX3 15 "AssemblyPlanner$Product" "contacts" "[I", .fieldLink RX3 18 "AssemblyPlanner$Product" "hinderers" "[I"] ++ wsX30)
def wsX3_add : List Cond := .code yX3_add cX3_add 3 (some .int) :: ([.fieldLink RX3 21 "AssemblyPlanner$Product" "count" "I", .fieldLink RX3 9 "AssemblyPlanner$Product" "tools" "[I"] ++ wsX30)
def wsX3_changeTool : List Cond := .code yX3_changeTool cX3_changeTool 4 (some .int) :: ([.fieldLink RX3 9 "AssemblyPlanner$Product" "tools" "[I"] ++ wsX30)
def wsX3_changed : List Cond := .code yX3_changed cX3_changed 3 (some .int) :: ([])
def wsJ6_bitCount_0f7a4 : List Cond := .code yJ6_bitCount_0f7a4 cJ6_bitCount_0f7a4 1 (some .int) :: ([.constant RJ6 265 (1431655765), .constant RJ6 266 (858993459), .constant RJ6 267 (252645135)])
def wsX3_tellContact : List Cond := .code yX3_tellContact cX3_tellContact 4 (some .int) :: ([.fieldLink RX3 15 "AssemblyPlanner$Product" "contacts" "[I", .methodLink RX3 25 yX3_changed, .static yX3_changed, .initialized RX3, .code yX3_changed cX3_changed 3 (some .int), .methodLink RX3 29 yJ6_bitCount_0f7a4, .static yJ6_bitCount_0f7a4, .initialized RJ6, .code yJ6_bitCount_0f7a4 cJ6_bitCount_0f7a4 1 (some .int), .constant RJ6 265 (1431655765), .constant RJ6 266 (858993459), .constant RJ6 267 (252645135)] ++ wsX30)
def wsX3_opposite : List Cond := .code yX3_opposite cX3_opposite 1 (some .int) :: ([])
def wsX3_tellHindered : List Cond := .code yX3_tellHindered cX3_tellHindered 7 (some .int) :: ([.fieldLink RX3 18 "AssemblyPlanner$Product" "hinderers" "[I", .methodLink RX3 35 yX3_opposite, .static yX3_opposite, .initialized RX3, .code yX3_opposite cX3_opposite 1 (some .int), .methodLink RX3 25 yX3_changed, .static yX3_changed, .code yX3_changed cX3_changed 3 (some .int), .methodLink RX3 29 yJ6_bitCount_0f7a4, .static yJ6_bitCount_0f7a4, .initialized RJ6, .code yJ6_bitCount_0f7a4 cJ6_bitCount_0f7a4 1 (some .int), .constant RJ6 265 (1431655765), .constant RJ6 266 (858993459), .constant RJ6 267 (252645135)] ++ wsX30)
def wsX3_changeBase : List Cond := .code yX3_changeBase cX3_changeBase 3 (some .int) :: ([.fieldLink RX3 38 "AssemblyPlanner$Product" "base" "I"] ++ wsX30)
def wsX3_changeSteadyAsked : List Cond := .code yX3_changeSteadyAsked cX3_changeSteadyAsked 3 (some .boolean) :: ([.fieldLink RX3 41 "AssemblyPlanner$Product" "steadyAsked" "Z"] ++ wsX30)
def wsX3_takeable : List Cond := .code yX3_takeable cX3_takeable 3 (some .boolean) :: ([.methodLink RX3 56 yX3_sound, .instanceMethod yX3_sound, .selects RX3 yX3_sound yX3_sound, .initialized RX3, .code yX3_sound cX3_sound 2 (some .boolean), .fieldLink RX3 41 "AssemblyPlanner$Product" "steadyAsked" "Z", .methodLink RX3 49 yX3_connected, .instanceMethod yX3_connected, .selects RX3 yX3_connected yX3_connected, .code yX3_connected cX3_connected 3 (some .boolean), .fieldLink RX3 15 "AssemblyPlanner$Product" "contacts" "[I", .methodLink RX3 45 yX3_reached, .static yX3_reached, .code yX3_reached cX3_reached 7 (some .int), .methodLink RX3 53 yX3_steady, .instanceMethod yX3_steady, .selects RX3 yX3_steady yX3_steady, .code yX3_steady cX3_steady 2 (some .boolean), .fieldLink RX3 18 "AssemblyPlanner$Product" "hinderers" "[I", .fieldLink RX3 38 "AssemblyPlanner$Product" "base" "I", .methodLink RX3 59 yX3_freeDirections, .instanceMethod yX3_freeDirections, .selects RX3 yX3_freeDirections yX3_freeDirections, .code yX3_freeDirections cX3_freeDirections 5 (some .int)] ++ wsX30)
def wsX3_movingWith : List Cond := .code yX3_movingWith cX3_movingWith 3 (some .int) :: ([.fieldLink RX3 18 "AssemblyPlanner$Product" "hinderers" "[I", .methodLink RX3 63 yX3_all, .instanceMethod yX3_all, .selects RX3 yX3_all yX3_all, .initialized RX3, .code yX3_all cX3_all 1 (some .int), .fieldLink RX3 21 "AssemblyPlanner$Product" "count" "I", .methodLink RX3 45 yX3_reached, .static yX3_reached, .code yX3_reached cX3_reached 7 (some .int)] ++ wsX30)
def wsX3_boundWith : List Cond := .code yX3_boundWith cX3_boundWith 3 (some .int) :: ([.methodLink RX3 67 yX3_movingWith, .instanceMethod yX3_movingWith, .selects RX3 yX3_movingWith yX3_movingWith, .initialized RX3, .code yX3_movingWith cX3_movingWith 3 (some .int), .fieldLink RX3 18 "AssemblyPlanner$Product" "hinderers" "[I", .methodLink RX3 63 yX3_all, .instanceMethod yX3_all, .selects RX3 yX3_all yX3_all, .code yX3_all cX3_all 1 (some .int), .fieldLink RX3 21 "AssemblyPlanner$Product" "count" "I", .methodLink RX3 45 yX3_reached, .static yX3_reached, .code yX3_reached cX3_reached 7 (some .int), .methodLink RX3 35 yX3_opposite, .static yX3_opposite, .code yX3_opposite cX3_opposite 1 (some .int)] ++ wsX30)
def wsX3_boundGroups : List Cond := .code yX3_boundGroups cX3_boundGroups 5 (some .int) :: ([.fieldLink RX3 21 "AssemblyPlanner$Product" "count" "I", .methodLink RX3 70 yX3_boundWith, .instanceMethod yX3_boundWith, .selects RX3 yX3_boundWith yX3_boundWith, .initialized RX3, .code yX3_boundWith cX3_boundWith 3 (some .int), .methodLink RX3 67 yX3_movingWith, .instanceMethod yX3_movingWith, .selects RX3 yX3_movingWith yX3_movingWith, .code yX3_movingWith cX3_movingWith 3 (some .int), .fieldLink RX3 18 "AssemblyPlanner$Product" "hinderers" "[I", .methodLink RX3 63 yX3_all, .instanceMethod yX3_all, .selects RX3 yX3_all yX3_all, .code yX3_all cX3_all 1 (some .int), .methodLink RX3 45 yX3_reached, .static yX3_reached, .code yX3_reached cX3_reached 7 (some .int), .methodLink RX3 35 yX3_opposite, .static yX3_opposite, .code yX3_opposite cX3_opposite 1 (some .int)] ++ wsX30)
def wsX4_init_r1 : List Cond := [Cond.methodLink RX4 3 objectInit, Cond.instanceMethod objectInit, Cond.code objectInit ⟨#[0xb1]⟩ 1 none, Cond.classLink RX4 9 RX3, Cond.instantiable RX3 6, Cond.initialized RX3, Cond.fieldLink RX4 12 "AssemblyPlanner" "product" "LAssemblyPlanner$Product;", Cond.classLink RX4 16 RX2, Cond.instantiable RX2 6, Cond.initialized RX2, Cond.fieldLink RX4 21 "AssemblyPlanner" "parting" "LAssemblyPlanner$Parting;", Cond.classLink RX4 25 RX1, Cond.instantiable RX1 8, Cond.initialized RX1, Cond.fieldLink RX4 28 "AssemblyPlanner" "ordering" "LAssemblyPlanner$Ordering;", Cond.classLink RX4 32 RX0, Cond.instantiable RX0 8, Cond.initialized RX0, Cond.fieldLink RX4 35 "AssemblyPlanner" "cell" "LAssemblyPlanner$Cell;", Cond.instanceMethod yX3_init, Cond.code yX3_init cX3_init 1 none, Cond.methodLink RX3 3 objectInit, Cond.arrayClass .int, Cond.fieldLink RX3 9 "AssemblyPlanner$Product" "tools" "[I"]
def wsX4_init_r2 : List Cond := [Cond.fieldLink RX3 15 "AssemblyPlanner$Product" "contacts" "[I", Cond.fieldLink RX3 18 "AssemblyPlanner$Product" "hinderers" "[I", Cond.methodLink RX4 18 yX2_init, Cond.instanceMethod yX2_init, Cond.code yX2_init cX2_init 2 none, Cond.methodLink RX2 3 objectInit, Cond.arrayClass .boolean, Cond.fieldLink RX2 9 "AssemblyPlanner$Parting" "connected" "[Z", Cond.fieldLink RX2 15 "AssemblyPlanner$Parting" "splits" "[I", Cond.fieldLink RX2 19 "AssemblyPlanner$Parting" "ways" "[I", Cond.fieldLink RX2 22 "AssemblyPlanner$Parting" "depths" "[I", Cond.fieldLink RX2 25 "AssemblyPlanner$Parting" "product" "LAssemblyPlanner$Product;", Cond.methodLink RX4 27 yX1_init, Cond.instanceMethod yX1_init, Cond.code yX1_init cX1_init 2 none, Cond.methodLink RX1 3 objectInit, Cond.fieldLink RX1 9 "AssemblyPlanner$Ordering" "sound" "[Z", Cond.fieldLink RX1 15 "AssemblyPlanner$Ordering" "nexts" "[I", Cond.fieldLink RX1 19 "AssemblyPlanner$Ordering" "orders" "[I", Cond.fieldLink RX1 22 "AssemblyPlanner$Ordering" "changes" "[I", Cond.fieldLink RX1 25 "AssemblyPlanner$Ordering" "best" "[I", Cond.fieldLink RX1 28 "AssemblyPlanner$Ordering" "product" "LAssemblyPlanner$Product;", Cond.methodLink RX4 34 yX0_init, Cond.instanceMethod yX0_init]
def wsX4_init_r3 : List Cond := [Cond.code yX0_init cX0_init 2 none, Cond.methodLink RX0 3 objectInit, Cond.fieldLink RX0 9 "AssemblyPlanner$Cell" "jamsToCome" "[I", Cond.fieldLink RX0 15 "AssemblyPlanner$Cell" "jamsSinceStart" "[I", Cond.fieldLink RX0 18 "AssemblyPlanner$Cell" "tool" "I", Cond.fieldLink RX0 22 "AssemblyPlanner$Cell" "product" "LAssemblyPlanner$Product;"]
def wsX4_init : List Cond := .code yX4_init cX4_init 1 none :: ((wsX4_init_r1 ++ (wsX4_init_r2 ++ wsX4_init_r3)) ++ wsX30 ++ wsX40 ++ wsX20 ++ wsX10 ++ wsX00)
def wsX4_needTool : List Cond := .code yX4_needTool cX4_needTool 2 none :: ([.classLink RX4 153 "java/lang/IllegalArgumentException", .initialized "java/lang/IllegalArgumentException"] ++ (vx_atS RX4 157 "java/lang/IllegalArgumentException" ["java/lang/RuntimeException", "java/lang/Exception"]).filter goodWord)
def wsX4_productIsTold_r1 : List Cond := [Cond.fieldLink RX4 21 "AssemblyPlanner" "parting" "LAssemblyPlanner$Parting;", Cond.fieldLink RX4 28 "AssemblyPlanner" "ordering" "LAssemblyPlanner$Ordering;", Cond.fieldLink RX4 35 "AssemblyPlanner" "cell" "LAssemblyPlanner$Cell;", Cond.methodLink RX4 194 yX2_forget, Cond.instanceMethod yX2_forget, Cond.selects RX2 yX2_forget yX2_forget, Cond.initialized RX2, Cond.code yX2_forget cX2_forget 1 none, Cond.fieldLink RX2 29 "AssemblyPlanner$Parting" "known" "Z", Cond.methodLink RX4 197 yX1_forget, Cond.instanceMethod yX1_forget, Cond.selects RX1 yX1_forget yX1_forget, Cond.initialized RX1, Cond.code yX1_forget cX1_forget 1 none, Cond.fieldLink RX1 32 "AssemblyPlanner$Ordering" "known" "Z", Cond.methodLink RX4 198 yX0_halt, Cond.instanceMethod yX0_halt, Cond.selects RX0 yX0_halt yX0_halt, Cond.initialized RX0, Cond.code yX0_halt cX0_halt 2 none, Cond.fieldLink RX0 29 "AssemblyPlanner$Cell" "begun" "Z", Cond.fieldLink RX0 33 "AssemblyPlanner$Cell" "placesIn" "I", Cond.fieldLink RX0 36 "AssemblyPlanner$Cell" "in" "I", Cond.fieldLink RX0 39 "AssemblyPlanner$Cell" "time" "I"]
def wsX4_productIsTold_r2 : List Cond := [Cond.fieldLink RX0 18 "AssemblyPlanner$Cell" "tool" "I", Cond.fieldLink RX0 15 "AssemblyPlanner$Cell" "jamsSinceStart" "[I"]
def wsX4_productIsTold : List Cond := .code yX4_productIsTold cX4_productIsTold 1 none :: ((wsX4_productIsTold_r1 ++ wsX4_productIsTold_r2) ++ wsX40 ++ wsX20 ++ wsX10 ++ wsX00)
def wsX4_addPart_r1 : List Cond := [Cond.classLink RX4 47 "java/lang/IllegalStateException", Cond.initialized "java/lang/IllegalStateException", Cond.fieldLink RX4 12 "AssemblyPlanner" "product" "LAssemblyPlanner$Product;", Cond.methodLink RX4 39 yX4_needTool, Cond.instanceMethod yX4_needTool, Cond.selects RX4 yX4_needTool yX4_needTool, Cond.initialized RX4, Cond.code yX4_needTool cX4_needTool 2 none, Cond.classLink RX4 153 "java/lang/IllegalArgumentException", Cond.initialized "java/lang/IllegalArgumentException", Cond.methodLink RX4 43 yX3_count, Cond.instanceMethod yX3_count, Cond.selects RX3 yX3_count yX3_count, Cond.initialized RX3, Cond.code yX3_count cX3_count 1 (some .int), Cond.fieldLink RX3 21 "AssemblyPlanner$Product" "count" "I", Cond.methodLink RX4 54 yX4_productIsTold, Cond.instanceMethod yX4_productIsTold, Cond.selects RX4 yX4_productIsTold yX4_productIsTold, Cond.code yX4_productIsTold cX4_productIsTold 1 none, Cond.fieldLink RX4 21 "AssemblyPlanner" "parting" "LAssemblyPlanner$Parting;", Cond.fieldLink RX4 28 "AssemblyPlanner" "ordering" "LAssemblyPlanner$Ordering;", Cond.fieldLink RX4 35 "AssemblyPlanner" "cell" "LAssemblyPlanner$Cell;", Cond.methodLink RX4 194 yX2_forget]
def wsX4_addPart_r2 : List Cond := [Cond.instanceMethod yX2_forget, Cond.selects RX2 yX2_forget yX2_forget, Cond.initialized RX2, Cond.code yX2_forget cX2_forget 1 none, Cond.fieldLink RX2 29 "AssemblyPlanner$Parting" "known" "Z", Cond.methodLink RX4 197 yX1_forget, Cond.instanceMethod yX1_forget, Cond.selects RX1 yX1_forget yX1_forget, Cond.initialized RX1, Cond.code yX1_forget cX1_forget 1 none, Cond.fieldLink RX1 32 "AssemblyPlanner$Ordering" "known" "Z", Cond.methodLink RX4 198 yX0_halt, Cond.instanceMethod yX0_halt, Cond.selects RX0 yX0_halt yX0_halt, Cond.initialized RX0, Cond.code yX0_halt cX0_halt 2 none, Cond.fieldLink RX0 29 "AssemblyPlanner$Cell" "begun" "Z", Cond.fieldLink RX0 33 "AssemblyPlanner$Cell" "placesIn" "I", Cond.fieldLink RX0 36 "AssemblyPlanner$Cell" "in" "I", Cond.fieldLink RX0 39 "AssemblyPlanner$Cell" "time" "I", Cond.fieldLink RX0 18 "AssemblyPlanner$Cell" "tool" "I", Cond.fieldLink RX0 15 "AssemblyPlanner$Cell" "jamsSinceStart" "[I", Cond.methodLink RX4 57 yX3_add, Cond.instanceMethod yX3_add]
def wsX4_addPart_r3 : List Cond := [Cond.selects RX3 yX3_add yX3_add, Cond.code yX3_add cX3_add 3 (some .int), Cond.fieldLink RX3 9 "AssemblyPlanner$Product" "tools" "[I"]
def wsX4_addPart : List Cond := .code yX4_addPart cX4_addPart 2 (some .int) :: ((wsX4_addPart_r1 ++ (wsX4_addPart_r2 ++ wsX4_addPart_r3)) ++ wsX40 ++ wsX30 ++ wsX20 ++ wsX10 ++ wsX00 ++ (vx_atS RX4 51 "java/lang/IllegalStateException" ["java/lang/RuntimeException", "java/lang/Exception"]).filter goodWord ++ (vx_atS RX4 157 "java/lang/IllegalArgumentException" ["java/lang/RuntimeException", "java/lang/Exception"]).filter goodWord)
def wsX4_needPart : List Cond := .code yX4_needPart cX4_needPart 2 none :: ([.classLink RX4 148 "java/lang/IndexOutOfBoundsException", .initialized "java/lang/IndexOutOfBoundsException", .fieldLink RX4 12 "AssemblyPlanner" "product" "LAssemblyPlanner$Product;", .methodLink RX4 43 yX3_count, .instanceMethod yX3_count, .selects RX3 yX3_count yX3_count, .initialized RX3, .code yX3_count cX3_count 1 (some .int), .fieldLink RX3 21 "AssemblyPlanner$Product" "count" "I"] ++ wsX40 ++ wsX30 ++ (vx_atS RX4 152 "java/lang/IndexOutOfBoundsException" ["java/lang/RuntimeException", "java/lang/Exception"]).filter goodWord)
def wsX4_setTool_r1 : List Cond := [Cond.fieldLink RX4 12 "AssemblyPlanner" "product" "LAssemblyPlanner$Product;", Cond.methodLink RX4 61 yX4_needPart, Cond.instanceMethod yX4_needPart, Cond.selects RX4 yX4_needPart yX4_needPart, Cond.initialized RX4, Cond.code yX4_needPart cX4_needPart 2 none, Cond.classLink RX4 148 "java/lang/IndexOutOfBoundsException", Cond.initialized "java/lang/IndexOutOfBoundsException", Cond.methodLink RX4 43 yX3_count, Cond.instanceMethod yX3_count, Cond.selects RX3 yX3_count yX3_count, Cond.initialized RX3, Cond.code yX3_count cX3_count 1 (some .int), Cond.fieldLink RX3 21 "AssemblyPlanner$Product" "count" "I", Cond.methodLink RX4 39 yX4_needTool, Cond.instanceMethod yX4_needTool, Cond.selects RX4 yX4_needTool yX4_needTool, Cond.code yX4_needTool cX4_needTool 2 none, Cond.classLink RX4 153 "java/lang/IllegalArgumentException", Cond.initialized "java/lang/IllegalArgumentException", Cond.methodLink RX4 54 yX4_productIsTold, Cond.instanceMethod yX4_productIsTold, Cond.selects RX4 yX4_productIsTold yX4_productIsTold, Cond.code yX4_productIsTold cX4_productIsTold 1 none]
def wsX4_setTool_r2 : List Cond := [Cond.fieldLink RX4 21 "AssemblyPlanner" "parting" "LAssemblyPlanner$Parting;", Cond.fieldLink RX4 28 "AssemblyPlanner" "ordering" "LAssemblyPlanner$Ordering;", Cond.fieldLink RX4 35 "AssemblyPlanner" "cell" "LAssemblyPlanner$Cell;", Cond.methodLink RX4 194 yX2_forget, Cond.instanceMethod yX2_forget, Cond.selects RX2 yX2_forget yX2_forget, Cond.initialized RX2, Cond.code yX2_forget cX2_forget 1 none, Cond.fieldLink RX2 29 "AssemblyPlanner$Parting" "known" "Z", Cond.methodLink RX4 197 yX1_forget, Cond.instanceMethod yX1_forget, Cond.selects RX1 yX1_forget yX1_forget, Cond.initialized RX1, Cond.code yX1_forget cX1_forget 1 none, Cond.fieldLink RX1 32 "AssemblyPlanner$Ordering" "known" "Z", Cond.methodLink RX4 198 yX0_halt, Cond.instanceMethod yX0_halt, Cond.selects RX0 yX0_halt yX0_halt, Cond.initialized RX0, Cond.code yX0_halt cX0_halt 2 none, Cond.fieldLink RX0 29 "AssemblyPlanner$Cell" "begun" "Z", Cond.fieldLink RX0 33 "AssemblyPlanner$Cell" "placesIn" "I", Cond.fieldLink RX0 36 "AssemblyPlanner$Cell" "in" "I", Cond.fieldLink RX0 39 "AssemblyPlanner$Cell" "time" "I"]
def wsX4_setTool_r3 : List Cond := [Cond.fieldLink RX0 18 "AssemblyPlanner$Cell" "tool" "I", Cond.fieldLink RX0 15 "AssemblyPlanner$Cell" "jamsSinceStart" "[I", Cond.methodLink RX4 64 yX3_changeTool, Cond.instanceMethod yX3_changeTool, Cond.selects RX3 yX3_changeTool yX3_changeTool, Cond.code yX3_changeTool cX3_changeTool 4 (some .int), Cond.fieldLink RX3 9 "AssemblyPlanner$Product" "tools" "[I"]
def wsX4_setTool : List Cond := .code yX4_setTool cX4_setTool 3 (some .int) :: ((wsX4_setTool_r1 ++ (wsX4_setTool_r2 ++ wsX4_setTool_r3)) ++ wsX40 ++ wsX30 ++ wsX20 ++ wsX10 ++ wsX00 ++ (vx_atS RX4 152 "java/lang/IndexOutOfBoundsException" ["java/lang/RuntimeException", "java/lang/Exception"]).filter goodWord ++ (vx_atS RX4 157 "java/lang/IllegalArgumentException" ["java/lang/RuntimeException", "java/lang/Exception"]).filter goodWord)
def wsX4_needDifferent : List Cond := .code yX4_needDifferent cX4_needDifferent 3 none :: ([.classLink RX4 153 "java/lang/IllegalArgumentException", .initialized "java/lang/IllegalArgumentException"] ++ (vx_atS RX4 157 "java/lang/IllegalArgumentException" ["java/lang/RuntimeException", "java/lang/Exception"]).filter goodWord)
def wsX4_contact_r1 : List Cond := [Cond.fieldLink RX4 12 "AssemblyPlanner" "product" "LAssemblyPlanner$Product;", Cond.methodLink RX4 61 yX4_needPart, Cond.instanceMethod yX4_needPart, Cond.selects RX4 yX4_needPart yX4_needPart, Cond.initialized RX4, Cond.code yX4_needPart cX4_needPart 2 none, Cond.classLink RX4 148 "java/lang/IndexOutOfBoundsException", Cond.initialized "java/lang/IndexOutOfBoundsException", Cond.methodLink RX4 43 yX3_count, Cond.instanceMethod yX3_count, Cond.selects RX3 yX3_count yX3_count, Cond.initialized RX3, Cond.code yX3_count cX3_count 1 (some .int), Cond.fieldLink RX3 21 "AssemblyPlanner$Product" "count" "I", Cond.methodLink RX4 68 yX4_needDifferent, Cond.instanceMethod yX4_needDifferent, Cond.selects RX4 yX4_needDifferent yX4_needDifferent, Cond.code yX4_needDifferent cX4_needDifferent 3 none, Cond.classLink RX4 153 "java/lang/IllegalArgumentException", Cond.initialized "java/lang/IllegalArgumentException", Cond.methodLink RX4 54 yX4_productIsTold, Cond.instanceMethod yX4_productIsTold, Cond.selects RX4 yX4_productIsTold yX4_productIsTold, Cond.code yX4_productIsTold cX4_productIsTold 1 none]
def wsX4_contact_r2 : List Cond := [Cond.fieldLink RX4 21 "AssemblyPlanner" "parting" "LAssemblyPlanner$Parting;", Cond.fieldLink RX4 28 "AssemblyPlanner" "ordering" "LAssemblyPlanner$Ordering;", Cond.fieldLink RX4 35 "AssemblyPlanner" "cell" "LAssemblyPlanner$Cell;", Cond.methodLink RX4 194 yX2_forget, Cond.instanceMethod yX2_forget, Cond.selects RX2 yX2_forget yX2_forget, Cond.initialized RX2, Cond.code yX2_forget cX2_forget 1 none, Cond.fieldLink RX2 29 "AssemblyPlanner$Parting" "known" "Z", Cond.methodLink RX4 197 yX1_forget, Cond.instanceMethod yX1_forget, Cond.selects RX1 yX1_forget yX1_forget, Cond.initialized RX1, Cond.code yX1_forget cX1_forget 1 none, Cond.fieldLink RX1 32 "AssemblyPlanner$Ordering" "known" "Z", Cond.methodLink RX4 198 yX0_halt, Cond.instanceMethod yX0_halt, Cond.selects RX0 yX0_halt yX0_halt, Cond.initialized RX0, Cond.code yX0_halt cX0_halt 2 none, Cond.fieldLink RX0 29 "AssemblyPlanner$Cell" "begun" "Z", Cond.fieldLink RX0 33 "AssemblyPlanner$Cell" "placesIn" "I", Cond.fieldLink RX0 36 "AssemblyPlanner$Cell" "in" "I", Cond.fieldLink RX0 39 "AssemblyPlanner$Cell" "time" "I"]
def wsX4_contact_r3 : List Cond := [Cond.fieldLink RX0 18 "AssemblyPlanner$Cell" "tool" "I", Cond.fieldLink RX0 15 "AssemblyPlanner$Cell" "jamsSinceStart" "[I", Cond.methodLink RX4 72 yX3_tellContact, Cond.instanceMethod yX3_tellContact, Cond.selects RX3 yX3_tellContact yX3_tellContact, Cond.code yX3_tellContact cX3_tellContact 4 (some .int), Cond.fieldLink RX3 15 "AssemblyPlanner$Product" "contacts" "[I", Cond.methodLink RX3 25 yX3_changed, Cond.static yX3_changed, Cond.code yX3_changed cX3_changed 3 (some .int), Cond.methodLink RX3 29 yJ6_bitCount_0f7a4, Cond.static yJ6_bitCount_0f7a4, Cond.initialized RJ6, Cond.code yJ6_bitCount_0f7a4 cJ6_bitCount_0f7a4 1 (some .int), Cond.constant RJ6 265 (1431655765), Cond.constant RJ6 266 (858993459), Cond.constant RJ6 267 (252645135)]
def wsX4_contact : List Cond := .code yX4_contact cX4_contact 4 (some .int) :: ((wsX4_contact_r1 ++ (wsX4_contact_r2 ++ wsX4_contact_r3)) ++ wsX40 ++ wsX30 ++ wsX20 ++ wsX10 ++ wsX00 ++ (vx_atS RX4 152 "java/lang/IndexOutOfBoundsException" ["java/lang/RuntimeException", "java/lang/Exception"]).filter goodWord ++ (vx_atS RX4 157 "java/lang/IllegalArgumentException" ["java/lang/RuntimeException", "java/lang/Exception"]).filter goodWord)
def wsX4_needDirection : List Cond := .code yX4_needDirection cX4_needDirection 2 none :: ([.classLink RX4 148 "java/lang/IndexOutOfBoundsException", .initialized "java/lang/IndexOutOfBoundsException"] ++ (vx_atS RX4 152 "java/lang/IndexOutOfBoundsException" ["java/lang/RuntimeException", "java/lang/Exception"]).filter goodWord)
def wsX4_hinder_r1 : List Cond := [Cond.fieldLink RX4 12 "AssemblyPlanner" "product" "LAssemblyPlanner$Product;", Cond.methodLink RX4 61 yX4_needPart, Cond.instanceMethod yX4_needPart, Cond.selects RX4 yX4_needPart yX4_needPart, Cond.initialized RX4, Cond.code yX4_needPart cX4_needPart 2 none, Cond.classLink RX4 148 "java/lang/IndexOutOfBoundsException", Cond.initialized "java/lang/IndexOutOfBoundsException", Cond.methodLink RX4 43 yX3_count, Cond.instanceMethod yX3_count, Cond.selects RX3 yX3_count yX3_count, Cond.initialized RX3, Cond.code yX3_count cX3_count 1 (some .int), Cond.fieldLink RX3 21 "AssemblyPlanner$Product" "count" "I", Cond.methodLink RX4 76 yX4_needDirection, Cond.instanceMethod yX4_needDirection, Cond.selects RX4 yX4_needDirection yX4_needDirection, Cond.code yX4_needDirection cX4_needDirection 2 none, Cond.methodLink RX4 68 yX4_needDifferent, Cond.instanceMethod yX4_needDifferent, Cond.selects RX4 yX4_needDifferent yX4_needDifferent, Cond.code yX4_needDifferent cX4_needDifferent 3 none, Cond.classLink RX4 153 "java/lang/IllegalArgumentException", Cond.initialized "java/lang/IllegalArgumentException"]
def wsX4_hinder_r2 : List Cond := [Cond.methodLink RX4 54 yX4_productIsTold, Cond.instanceMethod yX4_productIsTold, Cond.selects RX4 yX4_productIsTold yX4_productIsTold, Cond.code yX4_productIsTold cX4_productIsTold 1 none, Cond.fieldLink RX4 21 "AssemblyPlanner" "parting" "LAssemblyPlanner$Parting;", Cond.fieldLink RX4 28 "AssemblyPlanner" "ordering" "LAssemblyPlanner$Ordering;", Cond.fieldLink RX4 35 "AssemblyPlanner" "cell" "LAssemblyPlanner$Cell;", Cond.methodLink RX4 194 yX2_forget, Cond.instanceMethod yX2_forget, Cond.selects RX2 yX2_forget yX2_forget, Cond.initialized RX2, Cond.code yX2_forget cX2_forget 1 none, Cond.fieldLink RX2 29 "AssemblyPlanner$Parting" "known" "Z", Cond.methodLink RX4 197 yX1_forget, Cond.instanceMethod yX1_forget, Cond.selects RX1 yX1_forget yX1_forget, Cond.initialized RX1, Cond.code yX1_forget cX1_forget 1 none, Cond.fieldLink RX1 32 "AssemblyPlanner$Ordering" "known" "Z", Cond.methodLink RX4 198 yX0_halt, Cond.instanceMethod yX0_halt, Cond.selects RX0 yX0_halt yX0_halt, Cond.initialized RX0, Cond.code yX0_halt cX0_halt 2 none]
def wsX4_hinder_r3 : List Cond := [Cond.fieldLink RX0 29 "AssemblyPlanner$Cell" "begun" "Z", Cond.fieldLink RX0 33 "AssemblyPlanner$Cell" "placesIn" "I", Cond.fieldLink RX0 36 "AssemblyPlanner$Cell" "in" "I", Cond.fieldLink RX0 39 "AssemblyPlanner$Cell" "time" "I", Cond.fieldLink RX0 18 "AssemblyPlanner$Cell" "tool" "I", Cond.fieldLink RX0 15 "AssemblyPlanner$Cell" "jamsSinceStart" "[I", Cond.methodLink RX4 79 yX3_tellHindered, Cond.instanceMethod yX3_tellHindered, Cond.selects RX3 yX3_tellHindered yX3_tellHindered, Cond.code yX3_tellHindered cX3_tellHindered 7 (some .int), Cond.fieldLink RX3 18 "AssemblyPlanner$Product" "hinderers" "[I", Cond.methodLink RX3 35 yX3_opposite, Cond.static yX3_opposite, Cond.code yX3_opposite cX3_opposite 1 (some .int), Cond.methodLink RX3 25 yX3_changed, Cond.static yX3_changed, Cond.code yX3_changed cX3_changed 3 (some .int), Cond.methodLink RX3 29 yJ6_bitCount_0f7a4, Cond.static yJ6_bitCount_0f7a4, Cond.initialized RJ6, Cond.code yJ6_bitCount_0f7a4 cJ6_bitCount_0f7a4 1 (some .int), Cond.constant RJ6 265 (1431655765), Cond.constant RJ6 266 (858993459), Cond.constant RJ6 267 (252645135)]
def wsX4_hinder : List Cond := .code yX4_hinder cX4_hinder 5 (some .int) :: ((wsX4_hinder_r1 ++ (wsX4_hinder_r2 ++ wsX4_hinder_r3)) ++ wsX40 ++ wsX30 ++ wsX20 ++ wsX10 ++ wsX00 ++ (vx_atS RX4 152 "java/lang/IndexOutOfBoundsException" ["java/lang/RuntimeException", "java/lang/Exception"]).filter goodWord ++ (vx_atS RX4 157 "java/lang/IllegalArgumentException" ["java/lang/RuntimeException", "java/lang/Exception"]).filter goodWord)
def wsX4_setBase_r1 : List Cond := [Cond.fieldLink RX4 12 "AssemblyPlanner" "product" "LAssemblyPlanner$Product;", Cond.methodLink RX4 61 yX4_needPart, Cond.instanceMethod yX4_needPart, Cond.selects RX4 yX4_needPart yX4_needPart, Cond.initialized RX4, Cond.code yX4_needPart cX4_needPart 2 none, Cond.classLink RX4 148 "java/lang/IndexOutOfBoundsException", Cond.initialized "java/lang/IndexOutOfBoundsException", Cond.methodLink RX4 43 yX3_count, Cond.instanceMethod yX3_count, Cond.selects RX3 yX3_count yX3_count, Cond.initialized RX3, Cond.code yX3_count cX3_count 1 (some .int), Cond.fieldLink RX3 21 "AssemblyPlanner$Product" "count" "I", Cond.methodLink RX4 54 yX4_productIsTold, Cond.instanceMethod yX4_productIsTold, Cond.selects RX4 yX4_productIsTold yX4_productIsTold, Cond.code yX4_productIsTold cX4_productIsTold 1 none, Cond.fieldLink RX4 21 "AssemblyPlanner" "parting" "LAssemblyPlanner$Parting;", Cond.fieldLink RX4 28 "AssemblyPlanner" "ordering" "LAssemblyPlanner$Ordering;", Cond.fieldLink RX4 35 "AssemblyPlanner" "cell" "LAssemblyPlanner$Cell;", Cond.methodLink RX4 194 yX2_forget, Cond.instanceMethod yX2_forget, Cond.selects RX2 yX2_forget yX2_forget]
def wsX4_setBase_r2 : List Cond := [Cond.initialized RX2, Cond.code yX2_forget cX2_forget 1 none, Cond.fieldLink RX2 29 "AssemblyPlanner$Parting" "known" "Z", Cond.methodLink RX4 197 yX1_forget, Cond.instanceMethod yX1_forget, Cond.selects RX1 yX1_forget yX1_forget, Cond.initialized RX1, Cond.code yX1_forget cX1_forget 1 none, Cond.fieldLink RX1 32 "AssemblyPlanner$Ordering" "known" "Z", Cond.methodLink RX4 198 yX0_halt, Cond.instanceMethod yX0_halt, Cond.selects RX0 yX0_halt yX0_halt, Cond.initialized RX0, Cond.code yX0_halt cX0_halt 2 none, Cond.fieldLink RX0 29 "AssemblyPlanner$Cell" "begun" "Z", Cond.fieldLink RX0 33 "AssemblyPlanner$Cell" "placesIn" "I", Cond.fieldLink RX0 36 "AssemblyPlanner$Cell" "in" "I", Cond.fieldLink RX0 39 "AssemblyPlanner$Cell" "time" "I", Cond.fieldLink RX0 18 "AssemblyPlanner$Cell" "tool" "I", Cond.fieldLink RX0 15 "AssemblyPlanner$Cell" "jamsSinceStart" "[I", Cond.methodLink RX4 83 yX3_changeBase, Cond.instanceMethod yX3_changeBase, Cond.selects RX3 yX3_changeBase yX3_changeBase, Cond.code yX3_changeBase cX3_changeBase 3 (some .int)]
def wsX4_setBase_r3 : List Cond := [Cond.fieldLink RX3 38 "AssemblyPlanner$Product" "base" "I"]
def wsX4_setBase : List Cond := .code yX4_setBase cX4_setBase 2 (some .int) :: ((wsX4_setBase_r1 ++ (wsX4_setBase_r2 ++ wsX4_setBase_r3)) ++ wsX40 ++ wsX30 ++ wsX20 ++ wsX10 ++ wsX00 ++ (vx_atS RX4 152 "java/lang/IndexOutOfBoundsException" ["java/lang/RuntimeException", "java/lang/Exception"]).filter goodWord)
def wsX4_askSteady_r1 : List Cond := [Cond.fieldLink RX4 12 "AssemblyPlanner" "product" "LAssemblyPlanner$Product;", Cond.methodLink RX4 54 yX4_productIsTold, Cond.instanceMethod yX4_productIsTold, Cond.selects RX4 yX4_productIsTold yX4_productIsTold, Cond.initialized RX4, Cond.code yX4_productIsTold cX4_productIsTold 1 none, Cond.fieldLink RX4 21 "AssemblyPlanner" "parting" "LAssemblyPlanner$Parting;", Cond.fieldLink RX4 28 "AssemblyPlanner" "ordering" "LAssemblyPlanner$Ordering;", Cond.fieldLink RX4 35 "AssemblyPlanner" "cell" "LAssemblyPlanner$Cell;", Cond.methodLink RX4 194 yX2_forget, Cond.instanceMethod yX2_forget, Cond.selects RX2 yX2_forget yX2_forget, Cond.initialized RX2, Cond.code yX2_forget cX2_forget 1 none, Cond.fieldLink RX2 29 "AssemblyPlanner$Parting" "known" "Z", Cond.methodLink RX4 197 yX1_forget, Cond.instanceMethod yX1_forget, Cond.selects RX1 yX1_forget yX1_forget, Cond.initialized RX1, Cond.code yX1_forget cX1_forget 1 none, Cond.fieldLink RX1 32 "AssemblyPlanner$Ordering" "known" "Z", Cond.methodLink RX4 198 yX0_halt, Cond.instanceMethod yX0_halt, Cond.selects RX0 yX0_halt yX0_halt]
def wsX4_askSteady_r2 : List Cond := [Cond.initialized RX0, Cond.code yX0_halt cX0_halt 2 none, Cond.fieldLink RX0 29 "AssemblyPlanner$Cell" "begun" "Z", Cond.fieldLink RX0 33 "AssemblyPlanner$Cell" "placesIn" "I", Cond.fieldLink RX0 36 "AssemblyPlanner$Cell" "in" "I", Cond.fieldLink RX0 39 "AssemblyPlanner$Cell" "time" "I", Cond.fieldLink RX0 18 "AssemblyPlanner$Cell" "tool" "I", Cond.fieldLink RX0 15 "AssemblyPlanner$Cell" "jamsSinceStart" "[I", Cond.methodLink RX4 86 yX3_changeSteadyAsked, Cond.instanceMethod yX3_changeSteadyAsked, Cond.selects RX3 yX3_changeSteadyAsked yX3_changeSteadyAsked, Cond.initialized RX3, Cond.code yX3_changeSteadyAsked cX3_changeSteadyAsked 3 (some .boolean), Cond.fieldLink RX3 41 "AssemblyPlanner$Product" "steadyAsked" "Z"]
def wsX4_askSteady : List Cond := .code yX4_askSteady cX4_askSteady 2 (some .boolean) :: ((wsX4_askSteady_r1 ++ wsX4_askSteady_r2) ++ wsX40 ++ wsX20 ++ wsX10 ++ wsX00 ++ wsX30)
def wsX4_parts : List Cond := .code yX4_parts cX4_parts 1 (some .int) :: ([.fieldLink RX4 12 "AssemblyPlanner" "product" "LAssemblyPlanner$Product;", .methodLink RX4 43 yX3_count, .instanceMethod yX3_count, .selects RX3 yX3_count yX3_count, .initialized RX3, .code yX3_count cX3_count 1 (some .int), .fieldLink RX3 21 "AssemblyPlanner$Product" "count" "I"] ++ wsX40 ++ wsX30)
def wsX4_needSet : List Cond := .code yX4_needSet cX4_needSet 2 none :: ([.classLink RX4 153 "java/lang/IllegalArgumentException", .initialized "java/lang/IllegalArgumentException", .fieldLink RX4 12 "AssemblyPlanner" "product" "LAssemblyPlanner$Product;", .methodLink RX4 125 yX3_all, .instanceMethod yX3_all, .selects RX3 yX3_all yX3_all, .initialized RX3, .code yX3_all cX3_all 1 (some .int), .fieldLink RX3 21 "AssemblyPlanner$Product" "count" "I"] ++ wsX40 ++ wsX30 ++ (vx_atS RX4 157 "java/lang/IllegalArgumentException" ["java/lang/RuntimeException", "java/lang/Exception"]).filter goodWord)
def wsX4_isConnected : List Cond := .code yX4_isConnected cX4_isConnected 2 (some .boolean) :: ([.fieldLink RX4 12 "AssemblyPlanner" "product" "LAssemblyPlanner$Product;", .methodLink RX4 90 yX4_needSet, .instanceMethod yX4_needSet, .selects RX4 yX4_needSet yX4_needSet, .initialized RX4, .code yX4_needSet cX4_needSet 2 none, .classLink RX4 153 "java/lang/IllegalArgumentException", .initialized "java/lang/IllegalArgumentException", .methodLink RX4 125 yX3_all, .instanceMethod yX3_all, .selects RX3 yX3_all yX3_all, .initialized RX3, .code yX3_all cX3_all 1 (some .int), .fieldLink RX3 21 "AssemblyPlanner$Product" "count" "I", .methodLink RX4 93 yX3_connected, .instanceMethod yX3_connected, .selects RX3 yX3_connected yX3_connected, .code yX3_connected cX3_connected 3 (some .boolean), .fieldLink RX3 15 "AssemblyPlanner$Product" "contacts" "[I", .methodLink RX3 45 yX3_reached, .static yX3_reached, .code yX3_reached cX3_reached 7 (some .int)] ++ wsX40 ++ wsX30 ++ (vx_atS RX4 157 "java/lang/IllegalArgumentException" ["java/lang/RuntimeException", "java/lang/Exception"]).filter goodWord)
def wsX4_isSteady : List Cond := .code yX4_isSteady cX4_isSteady 2 (some .boolean) :: ([.fieldLink RX4 12 "AssemblyPlanner" "product" "LAssemblyPlanner$Product;", .methodLink RX4 90 yX4_needSet, .instanceMethod yX4_needSet, .selects RX4 yX4_needSet yX4_needSet, .initialized RX4, .code yX4_needSet cX4_needSet 2 none, .classLink RX4 153 "java/lang/IllegalArgumentException", .initialized "java/lang/IllegalArgumentException", .methodLink RX4 125 yX3_all, .instanceMethod yX3_all, .selects RX3 yX3_all yX3_all, .initialized RX3, .code yX3_all cX3_all 1 (some .int), .fieldLink RX3 21 "AssemblyPlanner$Product" "count" "I", .methodLink RX4 97 yX3_steady, .instanceMethod yX3_steady, .selects RX3 yX3_steady yX3_steady, .code yX3_steady cX3_steady 2 (some .boolean), .fieldLink RX3 18 "AssemblyPlanner$Product" "hinderers" "[I", .fieldLink RX3 38 "AssemblyPlanner$Product" "base" "I", .methodLink RX3 45 yX3_reached, .static yX3_reached, .code yX3_reached cX3_reached 7 (some .int)] ++ wsX40 ++ wsX30 ++ (vx_atS RX4 157 "java/lang/IllegalArgumentException" ["java/lang/RuntimeException", "java/lang/Exception"]).filter goodWord)
def wsX4_needSetWith : List Cond := .code yX4_needSetWith cX4_needSetWith 3 none :: ([.classLink RX4 153 "java/lang/IllegalArgumentException", .initialized "java/lang/IllegalArgumentException", .methodLink RX4 90 yX4_needSet, .instanceMethod yX4_needSet, .selects RX4 yX4_needSet yX4_needSet, .initialized RX4, .code yX4_needSet cX4_needSet 2 none, .fieldLink RX4 12 "AssemblyPlanner" "product" "LAssemblyPlanner$Product;", .methodLink RX4 125 yX3_all, .instanceMethod yX3_all, .selects RX3 yX3_all yX3_all, .initialized RX3, .code yX3_all cX3_all 1 (some .int), .fieldLink RX3 21 "AssemblyPlanner$Product" "count" "I"] ++ wsX40 ++ wsX30 ++ (vx_atS RX4 157 "java/lang/IllegalArgumentException" ["java/lang/RuntimeException", "java/lang/Exception"]).filter goodWord)
def wsX4_free_r1 : List Cond := [Cond.fieldLink RX4 12 "AssemblyPlanner" "product" "LAssemblyPlanner$Product;", Cond.methodLink RX4 61 yX4_needPart, Cond.instanceMethod yX4_needPart, Cond.selects RX4 yX4_needPart yX4_needPart, Cond.initialized RX4, Cond.code yX4_needPart cX4_needPart 2 none, Cond.classLink RX4 148 "java/lang/IndexOutOfBoundsException", Cond.initialized "java/lang/IndexOutOfBoundsException", Cond.methodLink RX4 43 yX3_count, Cond.instanceMethod yX3_count, Cond.selects RX3 yX3_count yX3_count, Cond.initialized RX3, Cond.code yX3_count cX3_count 1 (some .int), Cond.fieldLink RX3 21 "AssemblyPlanner$Product" "count" "I", Cond.methodLink RX4 100 yX4_needSetWith, Cond.instanceMethod yX4_needSetWith, Cond.selects RX4 yX4_needSetWith yX4_needSetWith, Cond.code yX4_needSetWith cX4_needSetWith 3 none, Cond.classLink RX4 153 "java/lang/IllegalArgumentException", Cond.initialized "java/lang/IllegalArgumentException", Cond.methodLink RX4 90 yX4_needSet, Cond.instanceMethod yX4_needSet, Cond.selects RX4 yX4_needSet yX4_needSet, Cond.code yX4_needSet cX4_needSet 2 none]
def wsX4_free_r2 : List Cond := [Cond.methodLink RX4 125 yX3_all, Cond.instanceMethod yX3_all, Cond.selects RX3 yX3_all yX3_all, Cond.code yX3_all cX3_all 1 (some .int), Cond.methodLink RX4 103 yX3_freeDirections, Cond.instanceMethod yX3_freeDirections, Cond.selects RX3 yX3_freeDirections yX3_freeDirections, Cond.code yX3_freeDirections cX3_freeDirections 5 (some .int), Cond.fieldLink RX3 18 "AssemblyPlanner$Product" "hinderers" "[I"]
def wsX4_free : List Cond := .code yX4_free cX4_free 3 (some .int) :: ((wsX4_free_r1 ++ wsX4_free_r2) ++ wsX40 ++ wsX30 ++ (vx_atS RX4 152 "java/lang/IndexOutOfBoundsException" ["java/lang/RuntimeException", "java/lang/Exception"]).filter goodWord ++ (vx_atS RX4 157 "java/lang/IllegalArgumentException" ["java/lang/RuntimeException", "java/lang/Exception"]).filter goodWord)
def wsX4_canTake_r1 : List Cond := [Cond.fieldLink RX4 12 "AssemblyPlanner" "product" "LAssemblyPlanner$Product;", Cond.methodLink RX4 61 yX4_needPart, Cond.instanceMethod yX4_needPart, Cond.selects RX4 yX4_needPart yX4_needPart, Cond.initialized RX4, Cond.code yX4_needPart cX4_needPart 2 none, Cond.classLink RX4 148 "java/lang/IndexOutOfBoundsException", Cond.initialized "java/lang/IndexOutOfBoundsException", Cond.methodLink RX4 43 yX3_count, Cond.instanceMethod yX3_count, Cond.selects RX3 yX3_count yX3_count, Cond.initialized RX3, Cond.code yX3_count cX3_count 1 (some .int), Cond.fieldLink RX3 21 "AssemblyPlanner$Product" "count" "I", Cond.methodLink RX4 100 yX4_needSetWith, Cond.instanceMethod yX4_needSetWith, Cond.selects RX4 yX4_needSetWith yX4_needSetWith, Cond.code yX4_needSetWith cX4_needSetWith 3 none, Cond.classLink RX4 153 "java/lang/IllegalArgumentException", Cond.initialized "java/lang/IllegalArgumentException", Cond.methodLink RX4 90 yX4_needSet, Cond.instanceMethod yX4_needSet, Cond.selects RX4 yX4_needSet yX4_needSet, Cond.code yX4_needSet cX4_needSet 2 none]
def wsX4_canTake_r2 : List Cond := [Cond.methodLink RX4 125 yX3_all, Cond.instanceMethod yX3_all, Cond.selects RX3 yX3_all yX3_all, Cond.code yX3_all cX3_all 1 (some .int), Cond.methodLink RX4 106 yX3_takeable, Cond.instanceMethod yX3_takeable, Cond.selects RX3 yX3_takeable yX3_takeable, Cond.code yX3_takeable cX3_takeable 3 (some .boolean), Cond.methodLink RX3 56 yX3_sound, Cond.instanceMethod yX3_sound, Cond.selects RX3 yX3_sound yX3_sound, Cond.code yX3_sound cX3_sound 2 (some .boolean), Cond.fieldLink RX3 41 "AssemblyPlanner$Product" "steadyAsked" "Z", Cond.methodLink RX3 49 yX3_connected, Cond.instanceMethod yX3_connected, Cond.selects RX3 yX3_connected yX3_connected, Cond.code yX3_connected cX3_connected 3 (some .boolean), Cond.fieldLink RX3 15 "AssemblyPlanner$Product" "contacts" "[I", Cond.methodLink RX3 45 yX3_reached, Cond.static yX3_reached, Cond.code yX3_reached cX3_reached 7 (some .int), Cond.methodLink RX3 53 yX3_steady, Cond.instanceMethod yX3_steady, Cond.selects RX3 yX3_steady yX3_steady]
def wsX4_canTake_r3 : List Cond := [Cond.code yX3_steady cX3_steady 2 (some .boolean), Cond.fieldLink RX3 18 "AssemblyPlanner$Product" "hinderers" "[I", Cond.fieldLink RX3 38 "AssemblyPlanner$Product" "base" "I", Cond.methodLink RX3 59 yX3_freeDirections, Cond.instanceMethod yX3_freeDirections, Cond.selects RX3 yX3_freeDirections yX3_freeDirections, Cond.code yX3_freeDirections cX3_freeDirections 5 (some .int)]
def wsX4_canTake : List Cond := .code yX4_canTake cX4_canTake 3 (some .boolean) :: ((wsX4_canTake_r1 ++ (wsX4_canTake_r2 ++ wsX4_canTake_r3)) ++ wsX40 ++ wsX30 ++ (vx_atS RX4 152 "java/lang/IndexOutOfBoundsException" ["java/lang/RuntimeException", "java/lang/Exception"]).filter goodWord ++ (vx_atS RX4 157 "java/lang/IllegalArgumentException" ["java/lang/RuntimeException", "java/lang/Exception"]).filter goodWord)
def wsX4_movesWith_r1 : List Cond := [Cond.fieldLink RX4 12 "AssemblyPlanner" "product" "LAssemblyPlanner$Product;", Cond.methodLink RX4 61 yX4_needPart, Cond.instanceMethod yX4_needPart, Cond.selects RX4 yX4_needPart yX4_needPart, Cond.initialized RX4, Cond.code yX4_needPart cX4_needPart 2 none, Cond.classLink RX4 148 "java/lang/IndexOutOfBoundsException", Cond.initialized "java/lang/IndexOutOfBoundsException", Cond.methodLink RX4 43 yX3_count, Cond.instanceMethod yX3_count, Cond.selects RX3 yX3_count yX3_count, Cond.initialized RX3, Cond.code yX3_count cX3_count 1 (some .int), Cond.fieldLink RX3 21 "AssemblyPlanner$Product" "count" "I", Cond.methodLink RX4 76 yX4_needDirection, Cond.instanceMethod yX4_needDirection, Cond.selects RX4 yX4_needDirection yX4_needDirection, Cond.code yX4_needDirection cX4_needDirection 2 none, Cond.methodLink RX4 110 yX3_movingWith, Cond.instanceMethod yX3_movingWith, Cond.selects RX3 yX3_movingWith yX3_movingWith, Cond.code yX3_movingWith cX3_movingWith 3 (some .int), Cond.fieldLink RX3 18 "AssemblyPlanner$Product" "hinderers" "[I", Cond.methodLink RX3 63 yX3_all]
def wsX4_movesWith_r2 : List Cond := [Cond.instanceMethod yX3_all, Cond.selects RX3 yX3_all yX3_all, Cond.code yX3_all cX3_all 1 (some .int), Cond.methodLink RX3 45 yX3_reached, Cond.static yX3_reached, Cond.code yX3_reached cX3_reached 7 (some .int)]
def wsX4_movesWith : List Cond := .code yX4_movesWith cX4_movesWith 3 (some .int) :: ((wsX4_movesWith_r1 ++ wsX4_movesWith_r2) ++ wsX40 ++ wsX30 ++ (vx_atS RX4 152 "java/lang/IndexOutOfBoundsException" ["java/lang/RuntimeException", "java/lang/Exception"]).filter goodWord)
def wsX4_boundTo_r1 : List Cond := [Cond.fieldLink RX4 12 "AssemblyPlanner" "product" "LAssemblyPlanner$Product;", Cond.methodLink RX4 61 yX4_needPart, Cond.instanceMethod yX4_needPart, Cond.selects RX4 yX4_needPart yX4_needPart, Cond.initialized RX4, Cond.code yX4_needPart cX4_needPart 2 none, Cond.classLink RX4 148 "java/lang/IndexOutOfBoundsException", Cond.initialized "java/lang/IndexOutOfBoundsException", Cond.methodLink RX4 43 yX3_count, Cond.instanceMethod yX3_count, Cond.selects RX3 yX3_count yX3_count, Cond.initialized RX3, Cond.code yX3_count cX3_count 1 (some .int), Cond.fieldLink RX3 21 "AssemblyPlanner$Product" "count" "I", Cond.methodLink RX4 76 yX4_needDirection, Cond.instanceMethod yX4_needDirection, Cond.selects RX4 yX4_needDirection yX4_needDirection, Cond.code yX4_needDirection cX4_needDirection 2 none, Cond.methodLink RX4 113 yX3_boundWith, Cond.instanceMethod yX3_boundWith, Cond.selects RX3 yX3_boundWith yX3_boundWith, Cond.code yX3_boundWith cX3_boundWith 3 (some .int), Cond.methodLink RX3 67 yX3_movingWith, Cond.instanceMethod yX3_movingWith]
def wsX4_boundTo_r2 : List Cond := [Cond.selects RX3 yX3_movingWith yX3_movingWith, Cond.code yX3_movingWith cX3_movingWith 3 (some .int), Cond.fieldLink RX3 18 "AssemblyPlanner$Product" "hinderers" "[I", Cond.methodLink RX3 63 yX3_all, Cond.instanceMethod yX3_all, Cond.selects RX3 yX3_all yX3_all, Cond.code yX3_all cX3_all 1 (some .int), Cond.methodLink RX3 45 yX3_reached, Cond.static yX3_reached, Cond.code yX3_reached cX3_reached 7 (some .int), Cond.methodLink RX3 35 yX3_opposite, Cond.static yX3_opposite, Cond.code yX3_opposite cX3_opposite 1 (some .int)]
def wsX4_boundTo : List Cond := .code yX4_boundTo cX4_boundTo 3 (some .int) :: ((wsX4_boundTo_r1 ++ wsX4_boundTo_r2) ++ wsX40 ++ wsX30 ++ (vx_atS RX4 152 "java/lang/IndexOutOfBoundsException" ["java/lang/RuntimeException", "java/lang/Exception"]).filter goodWord)
def wsX4_groups_r1 : List Cond := [Cond.fieldLink RX4 12 "AssemblyPlanner" "product" "LAssemblyPlanner$Product;", Cond.methodLink RX4 76 yX4_needDirection, Cond.instanceMethod yX4_needDirection, Cond.selects RX4 yX4_needDirection yX4_needDirection, Cond.initialized RX4, Cond.code yX4_needDirection cX4_needDirection 2 none, Cond.classLink RX4 148 "java/lang/IndexOutOfBoundsException", Cond.initialized "java/lang/IndexOutOfBoundsException", Cond.methodLink RX4 116 yX3_boundGroups, Cond.instanceMethod yX3_boundGroups, Cond.selects RX3 yX3_boundGroups yX3_boundGroups, Cond.initialized RX3, Cond.code yX3_boundGroups cX3_boundGroups 5 (some .int), Cond.fieldLink RX3 21 "AssemblyPlanner$Product" "count" "I", Cond.methodLink RX3 70 yX3_boundWith, Cond.instanceMethod yX3_boundWith, Cond.selects RX3 yX3_boundWith yX3_boundWith, Cond.code yX3_boundWith cX3_boundWith 3 (some .int), Cond.methodLink RX3 67 yX3_movingWith, Cond.instanceMethod yX3_movingWith, Cond.selects RX3 yX3_movingWith yX3_movingWith, Cond.code yX3_movingWith cX3_movingWith 3 (some .int), Cond.fieldLink RX3 18 "AssemblyPlanner$Product" "hinderers" "[I", Cond.methodLink RX3 63 yX3_all]
def wsX4_groups_r2 : List Cond := [Cond.instanceMethod yX3_all, Cond.selects RX3 yX3_all yX3_all, Cond.code yX3_all cX3_all 1 (some .int), Cond.methodLink RX3 45 yX3_reached, Cond.static yX3_reached, Cond.code yX3_reached cX3_reached 7 (some .int), Cond.methodLink RX3 35 yX3_opposite, Cond.static yX3_opposite, Cond.code yX3_opposite cX3_opposite 1 (some .int)]
def wsX4_groups : List Cond := .code yX4_groups cX4_groups 2 (some .int) :: ((wsX4_groups_r1 ++ wsX4_groups_r2) ++ wsX40 ++ wsX30 ++ (vx_atS RX4 152 "java/lang/IndexOutOfBoundsException" ["java/lang/RuntimeException", "java/lang/Exception"]).filter goodWord)
def wsX4_splits_r1 : List Cond := [Cond.fieldLink RX4 21 "AssemblyPlanner" "parting" "LAssemblyPlanner$Parting;", Cond.methodLink RX4 90 yX4_needSet, Cond.instanceMethod yX4_needSet, Cond.selects RX4 yX4_needSet yX4_needSet, Cond.initialized RX4, Cond.code yX4_needSet cX4_needSet 2 none, Cond.classLink RX4 153 "java/lang/IllegalArgumentException", Cond.initialized "java/lang/IllegalArgumentException", Cond.fieldLink RX4 12 "AssemblyPlanner" "product" "LAssemblyPlanner$Product;", Cond.methodLink RX4 125 yX3_all, Cond.instanceMethod yX3_all, Cond.selects RX3 yX3_all yX3_all, Cond.initialized RX3, Cond.code yX3_all cX3_all 1 (some .int), Cond.fieldLink RX3 21 "AssemblyPlanner$Product" "count" "I", Cond.methodLink RX4 119 yX2_splitsOf, Cond.instanceMethod yX2_splitsOf, Cond.selects RX2 yX2_splitsOf yX2_splitsOf, Cond.initialized RX2, Cond.code yX2_splitsOf cX2_splitsOf 2 (some .int), Cond.fieldLink RX2 15 "AssemblyPlanner$Parting" "splits" "[I", Cond.methodLink RX2 33 yX2_find, Cond.instanceMethod yX2_find, Cond.selects RX2 yX2_find yX2_find]
def wsX4_splits_r2 : List Cond := [Cond.code yX2_find cX2_find 2 none, Cond.fieldLink RX2 29 "AssemblyPlanner$Parting" "known" "Z", Cond.fieldLink RX2 25 "AssemblyPlanner$Parting" "product" "LAssemblyPlanner$Product;", Cond.fieldLink RX2 9 "AssemblyPlanner$Parting" "connected" "[Z", Cond.methodLink RX2 36 yX3_all, Cond.methodLink RX2 42 yX3_connected, Cond.instanceMethod yX3_connected, Cond.selects RX3 yX3_connected yX3_connected, Cond.code yX3_connected cX3_connected 3 (some .boolean), Cond.fieldLink RX3 15 "AssemblyPlanner$Product" "contacts" "[I", Cond.methodLink RX3 45 yX3_reached, Cond.static yX3_reached, Cond.code yX3_reached cX3_reached 7 (some .int), Cond.methodLink RX2 45 yX2_findFor, Cond.instanceMethod yX2_findFor, Cond.selects RX2 yX2_findFor yX2_findFor, Cond.code yX2_findFor cX2_findFor 4 none, Cond.fieldLink RX2 19 "AssemblyPlanner$Parting" "ways" "[I", Cond.fieldLink RX2 22 "AssemblyPlanner$Parting" "depths" "[I", Cond.methodLink RX2 49 yX2_isSplit, Cond.instanceMethod yX2_isSplit, Cond.selects RX2 yX2_isSplit yX2_isSplit, Cond.code yX2_isSplit cX2_isSplit 3 (some .boolean), Cond.methodLink RX2 57 yX3_separable]
def wsX4_splits_r3 : List Cond := [Cond.instanceMethod yX3_separable, Cond.selects RX3 yX3_separable yX3_separable, Cond.code yX3_separable cX3_separable 4 (some .boolean), Cond.methodLink RX3 73 yX3_hindered, Cond.instanceMethod yX3_hindered, Cond.selects RX3 yX3_hindered yX3_hindered, Cond.code yX3_hindered cX3_hindered 5 (some .boolean), Cond.fieldLink RX3 18 "AssemblyPlanner$Product" "hinderers" "[I", Cond.methodLink RX2 53 yX2_addSplit, Cond.instanceMethod yX2_addSplit, Cond.selects RX2 yX2_addSplit yX2_addSplit, Cond.code yX2_addSplit cX2_addSplit 5 none, Cond.methodLink RX2 60 Lib.Math.max.name, Cond.static Lib.Math.max.name, Cond.initialized "java/lang/Math", Cond.code Lib.Math.max.name Lib.Math.max.code 2 (some .int), Cond.methodLink RX2 66 Lib.Math.min.name, Cond.static Lib.Math.min.name, Cond.code Lib.Math.min.name Lib.Math.min.code 2 (some .int)]
def wsX4_splits : List Cond := .code yX4_splits cX4_splits 2 (some .int) :: ((wsX4_splits_r1 ++ (wsX4_splits_r2 ++ wsX4_splits_r3)) ++ wsX40 ++ wsX30 ++ wsX20 ++ (vx_atS RX4 157 "java/lang/IllegalArgumentException" ["java/lang/RuntimeException", "java/lang/Exception"]).filter goodWord)
def wsX4_needParts : List Cond := .code yX4_needParts cX4_needParts 1 none :: ([.classLink RX4 47 "java/lang/IllegalStateException", .initialized "java/lang/IllegalStateException", .fieldLink RX4 12 "AssemblyPlanner" "product" "LAssemblyPlanner$Product;", .methodLink RX4 43 yX3_count, .instanceMethod yX3_count, .selects RX3 yX3_count yX3_count, .initialized RX3, .code yX3_count cX3_count 1 (some .int), .fieldLink RX3 21 "AssemblyPlanner$Product" "count" "I"] ++ wsX40 ++ wsX30 ++ (vx_atS RX4 51 "java/lang/IllegalStateException" ["java/lang/RuntimeException", "java/lang/Exception"]).filter goodWord)
def wsX4_ways_r1 : List Cond := [Cond.fieldLink RX4 21 "AssemblyPlanner" "parting" "LAssemblyPlanner$Parting;", Cond.fieldLink RX4 12 "AssemblyPlanner" "product" "LAssemblyPlanner$Product;", Cond.methodLink RX4 122 yX4_needParts, Cond.instanceMethod yX4_needParts, Cond.selects RX4 yX4_needParts yX4_needParts, Cond.initialized RX4, Cond.code yX4_needParts cX4_needParts 1 none, Cond.classLink RX4 47 "java/lang/IllegalStateException", Cond.initialized "java/lang/IllegalStateException", Cond.methodLink RX4 43 yX3_count, Cond.instanceMethod yX3_count, Cond.selects RX3 yX3_count yX3_count, Cond.initialized RX3, Cond.code yX3_count cX3_count 1 (some .int), Cond.fieldLink RX3 21 "AssemblyPlanner$Product" "count" "I", Cond.methodLink RX4 125 yX3_all, Cond.instanceMethod yX3_all, Cond.selects RX3 yX3_all yX3_all, Cond.code yX3_all cX3_all 1 (some .int), Cond.methodLink RX4 128 yX2_waysOf, Cond.instanceMethod yX2_waysOf, Cond.selects RX2 yX2_waysOf yX2_waysOf, Cond.initialized RX2, Cond.code yX2_waysOf cX2_waysOf 2 (some .int)]
def wsX4_ways_r2 : List Cond := [Cond.fieldLink RX2 19 "AssemblyPlanner$Parting" "ways" "[I", Cond.methodLink RX2 33 yX2_find, Cond.instanceMethod yX2_find, Cond.selects RX2 yX2_find yX2_find, Cond.code yX2_find cX2_find 2 none, Cond.fieldLink RX2 29 "AssemblyPlanner$Parting" "known" "Z", Cond.fieldLink RX2 25 "AssemblyPlanner$Parting" "product" "LAssemblyPlanner$Product;", Cond.fieldLink RX2 9 "AssemblyPlanner$Parting" "connected" "[Z", Cond.methodLink RX2 36 yX3_all, Cond.methodLink RX2 42 yX3_connected, Cond.instanceMethod yX3_connected, Cond.selects RX3 yX3_connected yX3_connected, Cond.code yX3_connected cX3_connected 3 (some .boolean), Cond.fieldLink RX3 15 "AssemblyPlanner$Product" "contacts" "[I", Cond.methodLink RX3 45 yX3_reached, Cond.static yX3_reached, Cond.code yX3_reached cX3_reached 7 (some .int), Cond.methodLink RX2 45 yX2_findFor, Cond.instanceMethod yX2_findFor, Cond.selects RX2 yX2_findFor yX2_findFor, Cond.code yX2_findFor cX2_findFor 4 none, Cond.fieldLink RX2 15 "AssemblyPlanner$Parting" "splits" "[I", Cond.fieldLink RX2 22 "AssemblyPlanner$Parting" "depths" "[I", Cond.methodLink RX2 49 yX2_isSplit]
def wsX4_ways_r3 : List Cond := [Cond.instanceMethod yX2_isSplit, Cond.selects RX2 yX2_isSplit yX2_isSplit, Cond.code yX2_isSplit cX2_isSplit 3 (some .boolean), Cond.methodLink RX2 57 yX3_separable, Cond.instanceMethod yX3_separable, Cond.selects RX3 yX3_separable yX3_separable, Cond.code yX3_separable cX3_separable 4 (some .boolean), Cond.methodLink RX3 73 yX3_hindered, Cond.instanceMethod yX3_hindered, Cond.selects RX3 yX3_hindered yX3_hindered, Cond.code yX3_hindered cX3_hindered 5 (some .boolean), Cond.fieldLink RX3 18 "AssemblyPlanner$Product" "hinderers" "[I", Cond.methodLink RX2 53 yX2_addSplit, Cond.instanceMethod yX2_addSplit, Cond.selects RX2 yX2_addSplit yX2_addSplit, Cond.code yX2_addSplit cX2_addSplit 5 none, Cond.methodLink RX2 60 Lib.Math.max.name, Cond.static Lib.Math.max.name, Cond.initialized "java/lang/Math", Cond.code Lib.Math.max.name Lib.Math.max.code 2 (some .int), Cond.methodLink RX2 66 Lib.Math.min.name, Cond.static Lib.Math.min.name, Cond.code Lib.Math.min.name Lib.Math.min.code 2 (some .int)]
def wsX4_ways : List Cond := .code yX4_ways cX4_ways 1 (some .int) :: ((wsX4_ways_r1 ++ (wsX4_ways_r2 ++ wsX4_ways_r3)) ++ wsX40 ++ wsX30 ++ wsX20 ++ (vx_atS RX4 51 "java/lang/IllegalStateException" ["java/lang/RuntimeException", "java/lang/Exception"]).filter goodWord)
def wsX4_leastDepth_r1 : List Cond := [Cond.fieldLink RX4 21 "AssemblyPlanner" "parting" "LAssemblyPlanner$Parting;", Cond.fieldLink RX4 12 "AssemblyPlanner" "product" "LAssemblyPlanner$Product;", Cond.methodLink RX4 122 yX4_needParts, Cond.instanceMethod yX4_needParts, Cond.selects RX4 yX4_needParts yX4_needParts, Cond.initialized RX4, Cond.code yX4_needParts cX4_needParts 1 none, Cond.classLink RX4 47 "java/lang/IllegalStateException", Cond.initialized "java/lang/IllegalStateException", Cond.methodLink RX4 43 yX3_count, Cond.instanceMethod yX3_count, Cond.selects RX3 yX3_count yX3_count, Cond.initialized RX3, Cond.code yX3_count cX3_count 1 (some .int), Cond.fieldLink RX3 21 "AssemblyPlanner$Product" "count" "I", Cond.methodLink RX4 125 yX3_all, Cond.instanceMethod yX3_all, Cond.selects RX3 yX3_all yX3_all, Cond.code yX3_all cX3_all 1 (some .int), Cond.methodLink RX4 131 yX2_leastDepthOf, Cond.instanceMethod yX2_leastDepthOf, Cond.selects RX2 yX2_leastDepthOf yX2_leastDepthOf, Cond.initialized RX2, Cond.code yX2_leastDepthOf cX2_leastDepthOf 2 (some .int)]
def wsX4_leastDepth_r2 : List Cond := [Cond.fieldLink RX2 22 "AssemblyPlanner$Parting" "depths" "[I", Cond.methodLink RX2 33 yX2_find, Cond.instanceMethod yX2_find, Cond.selects RX2 yX2_find yX2_find, Cond.code yX2_find cX2_find 2 none, Cond.fieldLink RX2 29 "AssemblyPlanner$Parting" "known" "Z", Cond.fieldLink RX2 25 "AssemblyPlanner$Parting" "product" "LAssemblyPlanner$Product;", Cond.fieldLink RX2 9 "AssemblyPlanner$Parting" "connected" "[Z", Cond.methodLink RX2 36 yX3_all, Cond.methodLink RX2 42 yX3_connected, Cond.instanceMethod yX3_connected, Cond.selects RX3 yX3_connected yX3_connected, Cond.code yX3_connected cX3_connected 3 (some .boolean), Cond.fieldLink RX3 15 "AssemblyPlanner$Product" "contacts" "[I", Cond.methodLink RX3 45 yX3_reached, Cond.static yX3_reached, Cond.code yX3_reached cX3_reached 7 (some .int), Cond.methodLink RX2 45 yX2_findFor, Cond.instanceMethod yX2_findFor, Cond.selects RX2 yX2_findFor yX2_findFor, Cond.code yX2_findFor cX2_findFor 4 none, Cond.fieldLink RX2 15 "AssemblyPlanner$Parting" "splits" "[I", Cond.fieldLink RX2 19 "AssemblyPlanner$Parting" "ways" "[I", Cond.methodLink RX2 49 yX2_isSplit]
def wsX4_leastDepth_r3 : List Cond := [Cond.instanceMethod yX2_isSplit, Cond.selects RX2 yX2_isSplit yX2_isSplit, Cond.code yX2_isSplit cX2_isSplit 3 (some .boolean), Cond.methodLink RX2 57 yX3_separable, Cond.instanceMethod yX3_separable, Cond.selects RX3 yX3_separable yX3_separable, Cond.code yX3_separable cX3_separable 4 (some .boolean), Cond.methodLink RX3 73 yX3_hindered, Cond.instanceMethod yX3_hindered, Cond.selects RX3 yX3_hindered yX3_hindered, Cond.code yX3_hindered cX3_hindered 5 (some .boolean), Cond.fieldLink RX3 18 "AssemblyPlanner$Product" "hinderers" "[I", Cond.methodLink RX2 53 yX2_addSplit, Cond.instanceMethod yX2_addSplit, Cond.selects RX2 yX2_addSplit yX2_addSplit, Cond.code yX2_addSplit cX2_addSplit 5 none, Cond.methodLink RX2 60 Lib.Math.max.name, Cond.static Lib.Math.max.name, Cond.initialized "java/lang/Math", Cond.code Lib.Math.max.name Lib.Math.max.code 2 (some .int), Cond.methodLink RX2 66 Lib.Math.min.name, Cond.static Lib.Math.min.name, Cond.code Lib.Math.min.name Lib.Math.min.code 2 (some .int)]
def wsX4_leastDepth : List Cond := .code yX4_leastDepth cX4_leastDepth 1 (some .int) :: ((wsX4_leastDepth_r1 ++ (wsX4_leastDepth_r2 ++ wsX4_leastDepth_r3)) ++ wsX40 ++ wsX30 ++ wsX20 ++ (vx_atS RX4 51 "java/lang/IllegalStateException" ["java/lang/RuntimeException", "java/lang/Exception"]).filter goodWord)
def wsX4_orders_r1 : List Cond := [Cond.fieldLink RX4 28 "AssemblyPlanner" "ordering" "LAssemblyPlanner$Ordering;", Cond.methodLink RX4 122 yX4_needParts, Cond.instanceMethod yX4_needParts, Cond.selects RX4 yX4_needParts yX4_needParts, Cond.initialized RX4, Cond.code yX4_needParts cX4_needParts 1 none, Cond.classLink RX4 47 "java/lang/IllegalStateException", Cond.initialized "java/lang/IllegalStateException", Cond.fieldLink RX4 12 "AssemblyPlanner" "product" "LAssemblyPlanner$Product;", Cond.methodLink RX4 43 yX3_count, Cond.instanceMethod yX3_count, Cond.selects RX3 yX3_count yX3_count, Cond.initialized RX3, Cond.code yX3_count cX3_count 1 (some .int), Cond.fieldLink RX3 21 "AssemblyPlanner$Product" "count" "I", Cond.methodLink RX4 134 yX1_possible, Cond.instanceMethod yX1_possible, Cond.selects RX1 yX1_possible yX1_possible, Cond.initialized RX1, Cond.code yX1_possible cX1_possible 1 (some .int), Cond.fieldLink RX1 19 "AssemblyPlanner$Ordering" "orders" "[I", Cond.methodLink RX1 36 yX1_find, Cond.instanceMethod yX1_find, Cond.selects RX1 yX1_find yX1_find]
def wsX4_orders_r2 : List Cond := [Cond.code yX1_find cX1_find 3 none, Cond.fieldLink RX1 32 "AssemblyPlanner$Ordering" "known" "Z", Cond.fieldLink RX1 28 "AssemblyPlanner$Ordering" "product" "LAssemblyPlanner$Product;", Cond.fieldLink RX1 9 "AssemblyPlanner$Ordering" "sound" "[Z", Cond.fieldLink RX1 15 "AssemblyPlanner$Ordering" "nexts" "[I", Cond.fieldLink RX1 22 "AssemblyPlanner$Ordering" "changes" "[I", Cond.fieldLink RX1 39 "AssemblyPlanner$Ordering" "fewest" "I", Cond.methodLink RX1 57 yX3_all, Cond.instanceMethod yX3_all, Cond.selects RX3 yX3_all yX3_all, Cond.code yX3_all cX3_all 1 (some .int), Cond.methodLink RX1 60 yX3_sound, Cond.instanceMethod yX3_sound, Cond.selects RX3 yX3_sound yX3_sound, Cond.code yX3_sound cX3_sound 2 (some .boolean), Cond.fieldLink RX3 41 "AssemblyPlanner$Product" "steadyAsked" "Z", Cond.methodLink RX3 49 yX3_connected, Cond.instanceMethod yX3_connected, Cond.selects RX3 yX3_connected yX3_connected, Cond.code yX3_connected cX3_connected 3 (some .boolean), Cond.fieldLink RX3 15 "AssemblyPlanner$Product" "contacts" "[I", Cond.methodLink RX3 45 yX3_reached, Cond.static yX3_reached, Cond.code yX3_reached cX3_reached 7 (some .int)]
def wsX4_orders_r3 : List Cond := [Cond.methodLink RX3 53 yX3_steady, Cond.instanceMethod yX3_steady, Cond.selects RX3 yX3_steady yX3_steady, Cond.code yX3_steady cX3_steady 2 (some .boolean), Cond.fieldLink RX3 18 "AssemblyPlanner$Product" "hinderers" "[I", Cond.fieldLink RX3 38 "AssemblyPlanner$Product" "base" "I", Cond.methodLink RX1 63 yX1_nextsOf, Cond.instanceMethod yX1_nextsOf, Cond.selects RX1 yX1_nextsOf yX1_nextsOf, Cond.code yX1_nextsOf cX1_nextsOf 5 (some .int), Cond.methodLink RX1 51 yX3_count, Cond.methodLink RX1 76 yX3_freeDirections, Cond.instanceMethod yX3_freeDirections, Cond.selects RX3 yX3_freeDirections yX3_freeDirections, Cond.code yX3_freeDirections cX3_freeDirections 5 (some .int), Cond.methodLink RX1 66 yX1_ordersFrom, Cond.instanceMethod yX1_ordersFrom, Cond.selects RX1 yX1_ordersFrom yX1_ordersFrom, Cond.code yX1_ordersFrom cX1_ordersFrom 4 (some .int), Cond.methodLink RX1 69 yX1_fewestFrom, Cond.instanceMethod yX1_fewestFrom, Cond.selects RX1 yX1_fewestFrom yX1_fewestFrom, Cond.code yX1_fewestFrom cX1_fewestFrom 5 (some .int), Cond.methodLink RX1 83 Lib.Math.min.name]
def wsX4_orders_r4 : List Cond := [Cond.static Lib.Math.min.name, Cond.initialized "java/lang/Math", Cond.code Lib.Math.min.name Lib.Math.min.code 2 (some .int), Cond.methodLink RX1 79 yX1_changesWith, Cond.instanceMethod yX1_changesWith, Cond.selects RX1 yX1_changesWith yX1_changesWith, Cond.code yX1_changesWith cX1_changesWith 5 (some .int), Cond.methodLink RX1 88 yX3_tool, Cond.instanceMethod yX3_tool, Cond.selects RX3 yX3_tool yX3_tool, Cond.code yX3_tool cX3_tool 2 (some .int), Cond.fieldLink RX3 9 "AssemblyPlanner$Product" "tools" "[I", Cond.methodLink RX1 91 yX1_change, Cond.static yX1_change, Cond.code yX1_change cX1_change 2 (some .int), Cond.methodLink RX1 73 yX1_findBest, Cond.instanceMethod yX1_findBest, Cond.selects RX1 yX1_findBest yX1_findBest, Cond.code yX1_findBest cX1_findBest 6 none, Cond.fieldLink RX1 25 "AssemblyPlanner$Ordering" "best" "[I", Cond.methodLink RX1 94 yX1_leastNext, Cond.instanceMethod yX1_leastNext, Cond.selects RX1 yX1_leastNext yX1_leastNext, Cond.code yX1_leastNext cX1_leastNext 5 (some .int)]
def wsX4_orders : List Cond := .code yX4_orders cX4_orders 1 (some .int) :: ((wsX4_orders_r1 ++ (wsX4_orders_r2 ++ (wsX4_orders_r3 ++ wsX4_orders_r4))) ++ wsX40 ++ wsX30 ++ wsX10 ++ (vx_atS RX4 51 "java/lang/IllegalStateException" ["java/lang/RuntimeException", "java/lang/Exception"]).filter goodWord)
def wsX4_fewestChanges_r1 : List Cond := [Cond.fieldLink RX4 28 "AssemblyPlanner" "ordering" "LAssemblyPlanner$Ordering;", Cond.methodLink RX4 122 yX4_needParts, Cond.instanceMethod yX4_needParts, Cond.selects RX4 yX4_needParts yX4_needParts, Cond.initialized RX4, Cond.code yX4_needParts cX4_needParts 1 none, Cond.classLink RX4 47 "java/lang/IllegalStateException", Cond.initialized "java/lang/IllegalStateException", Cond.fieldLink RX4 12 "AssemblyPlanner" "product" "LAssemblyPlanner$Product;", Cond.methodLink RX4 43 yX3_count, Cond.instanceMethod yX3_count, Cond.selects RX3 yX3_count yX3_count, Cond.initialized RX3, Cond.code yX3_count cX3_count 1 (some .int), Cond.fieldLink RX3 21 "AssemblyPlanner$Product" "count" "I", Cond.methodLink RX4 137 yX1_fewestBySets, Cond.instanceMethod yX1_fewestBySets, Cond.selects RX1 yX1_fewestBySets yX1_fewestBySets, Cond.initialized RX1, Cond.code yX1_fewestBySets cX1_fewestBySets 1 (some .int), Cond.fieldLink RX1 39 "AssemblyPlanner$Ordering" "fewest" "I", Cond.methodLink RX1 36 yX1_find, Cond.instanceMethod yX1_find, Cond.selects RX1 yX1_find yX1_find]
def wsX4_fewestChanges_r2 : List Cond := [Cond.code yX1_find cX1_find 3 none, Cond.fieldLink RX1 32 "AssemblyPlanner$Ordering" "known" "Z", Cond.fieldLink RX1 28 "AssemblyPlanner$Ordering" "product" "LAssemblyPlanner$Product;", Cond.fieldLink RX1 9 "AssemblyPlanner$Ordering" "sound" "[Z", Cond.fieldLink RX1 15 "AssemblyPlanner$Ordering" "nexts" "[I", Cond.fieldLink RX1 19 "AssemblyPlanner$Ordering" "orders" "[I", Cond.fieldLink RX1 22 "AssemblyPlanner$Ordering" "changes" "[I", Cond.methodLink RX1 57 yX3_all, Cond.instanceMethod yX3_all, Cond.selects RX3 yX3_all yX3_all, Cond.code yX3_all cX3_all 1 (some .int), Cond.methodLink RX1 60 yX3_sound, Cond.instanceMethod yX3_sound, Cond.selects RX3 yX3_sound yX3_sound, Cond.code yX3_sound cX3_sound 2 (some .boolean), Cond.fieldLink RX3 41 "AssemblyPlanner$Product" "steadyAsked" "Z", Cond.methodLink RX3 49 yX3_connected, Cond.instanceMethod yX3_connected, Cond.selects RX3 yX3_connected yX3_connected, Cond.code yX3_connected cX3_connected 3 (some .boolean), Cond.fieldLink RX3 15 "AssemblyPlanner$Product" "contacts" "[I", Cond.methodLink RX3 45 yX3_reached, Cond.static yX3_reached, Cond.code yX3_reached cX3_reached 7 (some .int)]
def wsX4_fewestChanges_r3 : List Cond := [Cond.methodLink RX3 53 yX3_steady, Cond.instanceMethod yX3_steady, Cond.selects RX3 yX3_steady yX3_steady, Cond.code yX3_steady cX3_steady 2 (some .boolean), Cond.fieldLink RX3 18 "AssemblyPlanner$Product" "hinderers" "[I", Cond.fieldLink RX3 38 "AssemblyPlanner$Product" "base" "I", Cond.methodLink RX1 63 yX1_nextsOf, Cond.instanceMethod yX1_nextsOf, Cond.selects RX1 yX1_nextsOf yX1_nextsOf, Cond.code yX1_nextsOf cX1_nextsOf 5 (some .int), Cond.methodLink RX1 51 yX3_count, Cond.methodLink RX1 76 yX3_freeDirections, Cond.instanceMethod yX3_freeDirections, Cond.selects RX3 yX3_freeDirections yX3_freeDirections, Cond.code yX3_freeDirections cX3_freeDirections 5 (some .int), Cond.methodLink RX1 66 yX1_ordersFrom, Cond.instanceMethod yX1_ordersFrom, Cond.selects RX1 yX1_ordersFrom yX1_ordersFrom, Cond.code yX1_ordersFrom cX1_ordersFrom 4 (some .int), Cond.methodLink RX1 69 yX1_fewestFrom, Cond.instanceMethod yX1_fewestFrom, Cond.selects RX1 yX1_fewestFrom yX1_fewestFrom, Cond.code yX1_fewestFrom cX1_fewestFrom 5 (some .int), Cond.methodLink RX1 83 Lib.Math.min.name]
def wsX4_fewestChanges_r4 : List Cond := [Cond.static Lib.Math.min.name, Cond.initialized "java/lang/Math", Cond.code Lib.Math.min.name Lib.Math.min.code 2 (some .int), Cond.methodLink RX1 79 yX1_changesWith, Cond.instanceMethod yX1_changesWith, Cond.selects RX1 yX1_changesWith yX1_changesWith, Cond.code yX1_changesWith cX1_changesWith 5 (some .int), Cond.methodLink RX1 88 yX3_tool, Cond.instanceMethod yX3_tool, Cond.selects RX3 yX3_tool yX3_tool, Cond.code yX3_tool cX3_tool 2 (some .int), Cond.fieldLink RX3 9 "AssemblyPlanner$Product" "tools" "[I", Cond.methodLink RX1 91 yX1_change, Cond.static yX1_change, Cond.code yX1_change cX1_change 2 (some .int), Cond.methodLink RX1 73 yX1_findBest, Cond.instanceMethod yX1_findBest, Cond.selects RX1 yX1_findBest yX1_findBest, Cond.code yX1_findBest cX1_findBest 6 none, Cond.fieldLink RX1 25 "AssemblyPlanner$Ordering" "best" "[I", Cond.methodLink RX1 94 yX1_leastNext, Cond.instanceMethod yX1_leastNext, Cond.selects RX1 yX1_leastNext yX1_leastNext, Cond.code yX1_leastNext cX1_leastNext 5 (some .int)]
def wsX4_fewestChanges_r5 : List Cond := [Cond.methodLink RX1 43 yX1_orNone, Cond.static yX1_orNone, Cond.code yX1_orNone cX1_orNone 1 (some .int)]
def wsX4_fewestChanges : List Cond := .code yX4_fewestChanges cX4_fewestChanges 1 (some .int) :: ((wsX4_fewestChanges_r1 ++ (wsX4_fewestChanges_r2 ++ (wsX4_fewestChanges_r3 ++ (wsX4_fewestChanges_r4 ++ wsX4_fewestChanges_r5)))) ++ wsX40 ++ wsX30 ++ wsX10 ++ (vx_atS RX4 51 "java/lang/IllegalStateException" ["java/lang/RuntimeException", "java/lang/Exception"]).filter goodWord)
def wsX4_fewestByListing_r1 : List Cond := [Cond.classLink RX4 47 "java/lang/IllegalStateException", Cond.initialized "java/lang/IllegalStateException", Cond.fieldLink RX4 12 "AssemblyPlanner" "product" "LAssemblyPlanner$Product;", Cond.fieldLink RX4 28 "AssemblyPlanner" "ordering" "LAssemblyPlanner$Ordering;", Cond.methodLink RX4 122 yX4_needParts, Cond.instanceMethod yX4_needParts, Cond.selects RX4 yX4_needParts yX4_needParts, Cond.initialized RX4, Cond.code yX4_needParts cX4_needParts 1 none, Cond.methodLink RX4 43 yX3_count, Cond.instanceMethod yX3_count, Cond.selects RX3 yX3_count yX3_count, Cond.initialized RX3, Cond.code yX3_count cX3_count 1 (some .int), Cond.fieldLink RX3 21 "AssemblyPlanner$Product" "count" "I", Cond.methodLink RX4 142 yX1_fewestListed, Cond.instanceMethod yX1_fewestListed, Cond.selects RX1 yX1_fewestListed yX1_fewestListed, Cond.initialized RX1, Cond.code yX1_fewestListed cX1_fewestListed 1 (some .int), Cond.methodLink RX1 36 yX1_find, Cond.instanceMethod yX1_find, Cond.selects RX1 yX1_find yX1_find, Cond.code yX1_find cX1_find 3 none]
def wsX4_fewestByListing_r2 : List Cond := [Cond.fieldLink RX1 32 "AssemblyPlanner$Ordering" "known" "Z", Cond.fieldLink RX1 28 "AssemblyPlanner$Ordering" "product" "LAssemblyPlanner$Product;", Cond.fieldLink RX1 9 "AssemblyPlanner$Ordering" "sound" "[Z", Cond.fieldLink RX1 15 "AssemblyPlanner$Ordering" "nexts" "[I", Cond.fieldLink RX1 19 "AssemblyPlanner$Ordering" "orders" "[I", Cond.fieldLink RX1 22 "AssemblyPlanner$Ordering" "changes" "[I", Cond.fieldLink RX1 39 "AssemblyPlanner$Ordering" "fewest" "I", Cond.methodLink RX1 57 yX3_all, Cond.instanceMethod yX3_all, Cond.selects RX3 yX3_all yX3_all, Cond.code yX3_all cX3_all 1 (some .int), Cond.methodLink RX1 60 yX3_sound, Cond.instanceMethod yX3_sound, Cond.selects RX3 yX3_sound yX3_sound, Cond.code yX3_sound cX3_sound 2 (some .boolean), Cond.fieldLink RX3 41 "AssemblyPlanner$Product" "steadyAsked" "Z", Cond.methodLink RX3 49 yX3_connected, Cond.instanceMethod yX3_connected, Cond.selects RX3 yX3_connected yX3_connected, Cond.code yX3_connected cX3_connected 3 (some .boolean), Cond.fieldLink RX3 15 "AssemblyPlanner$Product" "contacts" "[I", Cond.methodLink RX3 45 yX3_reached, Cond.static yX3_reached, Cond.code yX3_reached cX3_reached 7 (some .int)]
def wsX4_fewestByListing_r3 : List Cond := [Cond.methodLink RX3 53 yX3_steady, Cond.instanceMethod yX3_steady, Cond.selects RX3 yX3_steady yX3_steady, Cond.code yX3_steady cX3_steady 2 (some .boolean), Cond.fieldLink RX3 18 "AssemblyPlanner$Product" "hinderers" "[I", Cond.fieldLink RX3 38 "AssemblyPlanner$Product" "base" "I", Cond.methodLink RX1 63 yX1_nextsOf, Cond.instanceMethod yX1_nextsOf, Cond.selects RX1 yX1_nextsOf yX1_nextsOf, Cond.code yX1_nextsOf cX1_nextsOf 5 (some .int), Cond.methodLink RX1 51 yX3_count, Cond.methodLink RX1 76 yX3_freeDirections, Cond.instanceMethod yX3_freeDirections, Cond.selects RX3 yX3_freeDirections yX3_freeDirections, Cond.code yX3_freeDirections cX3_freeDirections 5 (some .int), Cond.methodLink RX1 66 yX1_ordersFrom, Cond.instanceMethod yX1_ordersFrom, Cond.selects RX1 yX1_ordersFrom yX1_ordersFrom, Cond.code yX1_ordersFrom cX1_ordersFrom 4 (some .int), Cond.methodLink RX1 69 yX1_fewestFrom, Cond.instanceMethod yX1_fewestFrom, Cond.selects RX1 yX1_fewestFrom yX1_fewestFrom, Cond.code yX1_fewestFrom cX1_fewestFrom 5 (some .int), Cond.methodLink RX1 83 Lib.Math.min.name]
def wsX4_fewestByListing_r4 : List Cond := [Cond.static Lib.Math.min.name, Cond.initialized "java/lang/Math", Cond.code Lib.Math.min.name Lib.Math.min.code 2 (some .int), Cond.methodLink RX1 79 yX1_changesWith, Cond.instanceMethod yX1_changesWith, Cond.selects RX1 yX1_changesWith yX1_changesWith, Cond.code yX1_changesWith cX1_changesWith 5 (some .int), Cond.methodLink RX1 88 yX3_tool, Cond.instanceMethod yX3_tool, Cond.selects RX3 yX3_tool yX3_tool, Cond.code yX3_tool cX3_tool 2 (some .int), Cond.fieldLink RX3 9 "AssemblyPlanner$Product" "tools" "[I", Cond.methodLink RX1 91 yX1_change, Cond.static yX1_change, Cond.code yX1_change cX1_change 2 (some .int), Cond.methodLink RX1 73 yX1_findBest, Cond.instanceMethod yX1_findBest, Cond.selects RX1 yX1_findBest yX1_findBest, Cond.code yX1_findBest cX1_findBest 6 none, Cond.fieldLink RX1 25 "AssemblyPlanner$Ordering" "best" "[I", Cond.methodLink RX1 94 yX1_leastNext, Cond.instanceMethod yX1_leastNext, Cond.selects RX1 yX1_leastNext yX1_leastNext, Cond.code yX1_leastNext cX1_leastNext 5 (some .int)]
def wsX4_fewestByListing_r5 : List Cond := [Cond.methodLink RX1 47 yX1_listed, Cond.static yX1_listed, Cond.code yX1_listed cX1_listed 8 (some .int), Cond.methodLink RX1 43 yX1_orNone, Cond.static yX1_orNone, Cond.code yX1_orNone cX1_orNone 1 (some .int)]
def wsX4_fewestByListing : List Cond := .code yX4_fewestByListing cX4_fewestByListing 1 (some .int) :: ((wsX4_fewestByListing_r1 ++ (wsX4_fewestByListing_r2 ++ (wsX4_fewestByListing_r3 ++ (wsX4_fewestByListing_r4 ++ wsX4_fewestByListing_r5)))) ++ wsX40 ++ wsX30 ++ wsX10 ++ (vx_atS RX4 51 "java/lang/IllegalStateException" ["java/lang/RuntimeException", "java/lang/Exception"]).filter goodWord)
def wsX4_orderAt_r1 : List Cond := [Cond.classLink RX4 148 "java/lang/IndexOutOfBoundsException", Cond.initialized "java/lang/IndexOutOfBoundsException", Cond.fieldLink RX4 28 "AssemblyPlanner" "ordering" "LAssemblyPlanner$Ordering;", Cond.methodLink RX4 145 yX1_bestAt, Cond.instanceMethod yX1_bestAt, Cond.selects RX1 yX1_bestAt yX1_bestAt, Cond.initialized RX1, Cond.code yX1_bestAt cX1_bestAt 2 (some .int), Cond.fieldLink RX1 28 "AssemblyPlanner$Ordering" "product" "LAssemblyPlanner$Product;", Cond.fieldLink RX1 39 "AssemblyPlanner$Ordering" "fewest" "I", Cond.fieldLink RX1 25 "AssemblyPlanner$Ordering" "best" "[I", Cond.methodLink RX1 51 yX3_count, Cond.instanceMethod yX3_count, Cond.selects RX3 yX3_count yX3_count, Cond.initialized RX3, Cond.code yX3_count cX3_count 1 (some .int), Cond.fieldLink RX3 21 "AssemblyPlanner$Product" "count" "I", Cond.methodLink RX1 36 yX1_find, Cond.instanceMethod yX1_find, Cond.selects RX1 yX1_find yX1_find, Cond.code yX1_find cX1_find 3 none, Cond.fieldLink RX1 32 "AssemblyPlanner$Ordering" "known" "Z", Cond.fieldLink RX1 9 "AssemblyPlanner$Ordering" "sound" "[Z", Cond.fieldLink RX1 15 "AssemblyPlanner$Ordering" "nexts" "[I"]
def wsX4_orderAt_r2 : List Cond := [Cond.fieldLink RX1 19 "AssemblyPlanner$Ordering" "orders" "[I", Cond.fieldLink RX1 22 "AssemblyPlanner$Ordering" "changes" "[I", Cond.methodLink RX1 57 yX3_all, Cond.instanceMethod yX3_all, Cond.selects RX3 yX3_all yX3_all, Cond.code yX3_all cX3_all 1 (some .int), Cond.methodLink RX1 60 yX3_sound, Cond.instanceMethod yX3_sound, Cond.selects RX3 yX3_sound yX3_sound, Cond.code yX3_sound cX3_sound 2 (some .boolean), Cond.fieldLink RX3 41 "AssemblyPlanner$Product" "steadyAsked" "Z", Cond.methodLink RX3 49 yX3_connected, Cond.instanceMethod yX3_connected, Cond.selects RX3 yX3_connected yX3_connected, Cond.code yX3_connected cX3_connected 3 (some .boolean), Cond.fieldLink RX3 15 "AssemblyPlanner$Product" "contacts" "[I", Cond.methodLink RX3 45 yX3_reached, Cond.static yX3_reached, Cond.code yX3_reached cX3_reached 7 (some .int), Cond.methodLink RX3 53 yX3_steady, Cond.instanceMethod yX3_steady, Cond.selects RX3 yX3_steady yX3_steady, Cond.code yX3_steady cX3_steady 2 (some .boolean), Cond.fieldLink RX3 18 "AssemblyPlanner$Product" "hinderers" "[I"]
def wsX4_orderAt_r3 : List Cond := [Cond.fieldLink RX3 38 "AssemblyPlanner$Product" "base" "I", Cond.methodLink RX1 63 yX1_nextsOf, Cond.instanceMethod yX1_nextsOf, Cond.selects RX1 yX1_nextsOf yX1_nextsOf, Cond.code yX1_nextsOf cX1_nextsOf 5 (some .int), Cond.methodLink RX1 76 yX3_freeDirections, Cond.instanceMethod yX3_freeDirections, Cond.selects RX3 yX3_freeDirections yX3_freeDirections, Cond.code yX3_freeDirections cX3_freeDirections 5 (some .int), Cond.methodLink RX1 66 yX1_ordersFrom, Cond.instanceMethod yX1_ordersFrom, Cond.selects RX1 yX1_ordersFrom yX1_ordersFrom, Cond.code yX1_ordersFrom cX1_ordersFrom 4 (some .int), Cond.methodLink RX1 69 yX1_fewestFrom, Cond.instanceMethod yX1_fewestFrom, Cond.selects RX1 yX1_fewestFrom yX1_fewestFrom, Cond.code yX1_fewestFrom cX1_fewestFrom 5 (some .int), Cond.methodLink RX1 83 Lib.Math.min.name, Cond.static Lib.Math.min.name, Cond.initialized "java/lang/Math", Cond.code Lib.Math.min.name Lib.Math.min.code 2 (some .int), Cond.methodLink RX1 79 yX1_changesWith, Cond.instanceMethod yX1_changesWith, Cond.selects RX1 yX1_changesWith yX1_changesWith]
def wsX4_orderAt_r4 : List Cond := [Cond.code yX1_changesWith cX1_changesWith 5 (some .int), Cond.methodLink RX1 88 yX3_tool, Cond.instanceMethod yX3_tool, Cond.selects RX3 yX3_tool yX3_tool, Cond.code yX3_tool cX3_tool 2 (some .int), Cond.fieldLink RX3 9 "AssemblyPlanner$Product" "tools" "[I", Cond.methodLink RX1 91 yX1_change, Cond.static yX1_change, Cond.code yX1_change cX1_change 2 (some .int), Cond.methodLink RX1 73 yX1_findBest, Cond.instanceMethod yX1_findBest, Cond.selects RX1 yX1_findBest yX1_findBest, Cond.code yX1_findBest cX1_findBest 6 none, Cond.methodLink RX1 94 yX1_leastNext, Cond.instanceMethod yX1_leastNext, Cond.selects RX1 yX1_leastNext yX1_leastNext, Cond.code yX1_leastNext cX1_leastNext 5 (some .int)]
def wsX4_orderAt : List Cond := .code yX4_orderAt cX4_orderAt 3 (some .int) :: ((wsX4_orderAt_r1 ++ (wsX4_orderAt_r2 ++ (wsX4_orderAt_r3 ++ wsX4_orderAt_r4))) ++ wsX40 ++ wsX10 ++ wsX30 ++ (vx_atS RX4 152 "java/lang/IndexOutOfBoundsException" ["java/lang/RuntimeException", "java/lang/Exception"]).filter goodWord)
def wsX4_setJams : List Cond := .code yX4_setJams cX4_setJams 3 (some .int) :: ([.classLink RX4 153 "java/lang/IllegalArgumentException", .initialized "java/lang/IllegalArgumentException", .fieldLink RX4 35 "AssemblyPlanner" "cell" "LAssemblyPlanner$Cell;", .methodLink RX4 61 yX4_needPart, .instanceMethod yX4_needPart, .selects RX4 yX4_needPart yX4_needPart, .initialized RX4, .code yX4_needPart cX4_needPart 2 none, .classLink RX4 148 "java/lang/IndexOutOfBoundsException", .initialized "java/lang/IndexOutOfBoundsException", .fieldLink RX4 12 "AssemblyPlanner" "product" "LAssemblyPlanner$Product;", .methodLink RX4 43 yX3_count, .instanceMethod yX3_count, .selects RX3 yX3_count yX3_count, .initialized RX3, .code yX3_count cX3_count 1 (some .int), .fieldLink RX3 21 "AssemblyPlanner$Product" "count" "I", .methodLink RX4 158 yX0_changeJams, .instanceMethod yX0_changeJams, .selects RX0 yX0_changeJams yX0_changeJams, .initialized RX0, .code yX0_changeJams cX0_changeJams 4 (some .int), .fieldLink RX0 9 "AssemblyPlanner$Cell" "jamsToCome" "[I"] ++ wsX40 ++ wsX30 ++ wsX00 ++ (vx_atS RX4 157 "java/lang/IllegalArgumentException" ["java/lang/RuntimeException", "java/lang/Exception"]).filter goodWord ++ (vx_atS RX4 152 "java/lang/IndexOutOfBoundsException" ["java/lang/RuntimeException", "java/lang/Exception"]).filter goodWord)
def wsX4_begin_r1 : List Cond := [Cond.classLink RX4 47 "java/lang/IllegalStateException", Cond.initialized "java/lang/IllegalStateException", Cond.fieldLink RX4 28 "AssemblyPlanner" "ordering" "LAssemblyPlanner$Ordering;", Cond.fieldLink RX4 35 "AssemblyPlanner" "cell" "LAssemblyPlanner$Cell;", Cond.fieldLink RX4 12 "AssemblyPlanner" "product" "LAssemblyPlanner$Product;", Cond.methodLink RX4 122 yX4_needParts, Cond.instanceMethod yX4_needParts, Cond.selects RX4 yX4_needParts yX4_needParts, Cond.initialized RX4, Cond.code yX4_needParts cX4_needParts 1 none, Cond.methodLink RX4 43 yX3_count, Cond.instanceMethod yX3_count, Cond.selects RX3 yX3_count yX3_count, Cond.initialized RX3, Cond.code yX3_count cX3_count 1 (some .int), Cond.fieldLink RX3 21 "AssemblyPlanner$Product" "count" "I", Cond.methodLink RX4 137 yX1_fewestBySets, Cond.instanceMethod yX1_fewestBySets, Cond.selects RX1 yX1_fewestBySets yX1_fewestBySets, Cond.initialized RX1, Cond.code yX1_fewestBySets cX1_fewestBySets 1 (some .int), Cond.fieldLink RX1 39 "AssemblyPlanner$Ordering" "fewest" "I", Cond.methodLink RX1 36 yX1_find, Cond.instanceMethod yX1_find]
def wsX4_begin_r2 : List Cond := [Cond.selects RX1 yX1_find yX1_find, Cond.code yX1_find cX1_find 3 none, Cond.fieldLink RX1 32 "AssemblyPlanner$Ordering" "known" "Z", Cond.fieldLink RX1 28 "AssemblyPlanner$Ordering" "product" "LAssemblyPlanner$Product;", Cond.fieldLink RX1 9 "AssemblyPlanner$Ordering" "sound" "[Z", Cond.fieldLink RX1 15 "AssemblyPlanner$Ordering" "nexts" "[I", Cond.fieldLink RX1 19 "AssemblyPlanner$Ordering" "orders" "[I", Cond.fieldLink RX1 22 "AssemblyPlanner$Ordering" "changes" "[I", Cond.methodLink RX1 57 yX3_all, Cond.instanceMethod yX3_all, Cond.selects RX3 yX3_all yX3_all, Cond.code yX3_all cX3_all 1 (some .int), Cond.methodLink RX1 60 yX3_sound, Cond.instanceMethod yX3_sound, Cond.selects RX3 yX3_sound yX3_sound, Cond.code yX3_sound cX3_sound 2 (some .boolean), Cond.fieldLink RX3 41 "AssemblyPlanner$Product" "steadyAsked" "Z", Cond.methodLink RX3 49 yX3_connected, Cond.instanceMethod yX3_connected, Cond.selects RX3 yX3_connected yX3_connected, Cond.code yX3_connected cX3_connected 3 (some .boolean), Cond.fieldLink RX3 15 "AssemblyPlanner$Product" "contacts" "[I", Cond.methodLink RX3 45 yX3_reached, Cond.static yX3_reached]
def wsX4_begin_r3 : List Cond := [Cond.code yX3_reached cX3_reached 7 (some .int), Cond.methodLink RX3 53 yX3_steady, Cond.instanceMethod yX3_steady, Cond.selects RX3 yX3_steady yX3_steady, Cond.code yX3_steady cX3_steady 2 (some .boolean), Cond.fieldLink RX3 18 "AssemblyPlanner$Product" "hinderers" "[I", Cond.fieldLink RX3 38 "AssemblyPlanner$Product" "base" "I", Cond.methodLink RX1 63 yX1_nextsOf, Cond.instanceMethod yX1_nextsOf, Cond.selects RX1 yX1_nextsOf yX1_nextsOf, Cond.code yX1_nextsOf cX1_nextsOf 5 (some .int), Cond.methodLink RX1 51 yX3_count, Cond.methodLink RX1 76 yX3_freeDirections, Cond.instanceMethod yX3_freeDirections, Cond.selects RX3 yX3_freeDirections yX3_freeDirections, Cond.code yX3_freeDirections cX3_freeDirections 5 (some .int), Cond.methodLink RX1 66 yX1_ordersFrom, Cond.instanceMethod yX1_ordersFrom, Cond.selects RX1 yX1_ordersFrom yX1_ordersFrom, Cond.code yX1_ordersFrom cX1_ordersFrom 4 (some .int), Cond.methodLink RX1 69 yX1_fewestFrom, Cond.instanceMethod yX1_fewestFrom, Cond.selects RX1 yX1_fewestFrom yX1_fewestFrom, Cond.code yX1_fewestFrom cX1_fewestFrom 5 (some .int)]
def wsX4_begin_r4 : List Cond := [Cond.methodLink RX1 83 Lib.Math.min.name, Cond.static Lib.Math.min.name, Cond.initialized "java/lang/Math", Cond.code Lib.Math.min.name Lib.Math.min.code 2 (some .int), Cond.methodLink RX1 79 yX1_changesWith, Cond.instanceMethod yX1_changesWith, Cond.selects RX1 yX1_changesWith yX1_changesWith, Cond.code yX1_changesWith cX1_changesWith 5 (some .int), Cond.methodLink RX1 88 yX3_tool, Cond.instanceMethod yX3_tool, Cond.selects RX3 yX3_tool yX3_tool, Cond.code yX3_tool cX3_tool 2 (some .int), Cond.fieldLink RX3 9 "AssemblyPlanner$Product" "tools" "[I", Cond.methodLink RX1 91 yX1_change, Cond.static yX1_change, Cond.code yX1_change cX1_change 2 (some .int), Cond.methodLink RX1 73 yX1_findBest, Cond.instanceMethod yX1_findBest, Cond.selects RX1 yX1_findBest yX1_findBest, Cond.code yX1_findBest cX1_findBest 6 none, Cond.fieldLink RX1 25 "AssemblyPlanner$Ordering" "best" "[I", Cond.methodLink RX1 94 yX1_leastNext, Cond.instanceMethod yX1_leastNext, Cond.selects RX1 yX1_leastNext yX1_leastNext]
def wsX4_begin_r5 : List Cond := [Cond.code yX1_leastNext cX1_leastNext 5 (some .int), Cond.methodLink RX1 43 yX1_orNone, Cond.static yX1_orNone, Cond.code yX1_orNone cX1_orNone 1 (some .int), Cond.methodLink RX4 163 yX0_start, Cond.instanceMethod yX0_start, Cond.selects RX0 yX0_start yX0_start, Cond.initialized RX0, Cond.code yX0_start cX0_start 1 none, Cond.fieldLink RX0 29 "AssemblyPlanner$Cell" "begun" "Z", Cond.methodLink RX0 26 yX0_halt, Cond.instanceMethod yX0_halt, Cond.selects RX0 yX0_halt yX0_halt, Cond.code yX0_halt cX0_halt 2 none, Cond.fieldLink RX0 33 "AssemblyPlanner$Cell" "placesIn" "I", Cond.fieldLink RX0 36 "AssemblyPlanner$Cell" "in" "I", Cond.fieldLink RX0 39 "AssemblyPlanner$Cell" "time" "I", Cond.fieldLink RX0 18 "AssemblyPlanner$Cell" "tool" "I", Cond.fieldLink RX0 15 "AssemblyPlanner$Cell" "jamsSinceStart" "[I"]
def wsX4_begin : List Cond := .code yX4_begin cX4_begin 1 (some .int) :: ((wsX4_begin_r1 ++ (wsX4_begin_r2 ++ (wsX4_begin_r3 ++ (wsX4_begin_r4 ++ wsX4_begin_r5)))) ++ wsX40 ++ wsX30 ++ wsX10 ++ wsX00 ++ (vx_atS RX4 51 "java/lang/IllegalStateException" ["java/lang/RuntimeException", "java/lang/Exception"]).filter goodWord)
def wsX4_step_r1 : List Cond := [Cond.classLink RX4 47 "java/lang/IllegalStateException", Cond.initialized "java/lang/IllegalStateException", Cond.fieldLink RX4 28 "AssemblyPlanner" "ordering" "LAssemblyPlanner$Ordering;", Cond.fieldLink RX4 35 "AssemblyPlanner" "cell" "LAssemblyPlanner$Cell;", Cond.methodLink RX4 166 yX0_nextPlace, Cond.instanceMethod yX0_nextPlace, Cond.selects RX0 yX0_nextPlace yX0_nextPlace, Cond.initialized RX0, Cond.code yX0_nextPlace cX0_nextPlace 1 (some .int), Cond.fieldLink RX0 29 "AssemblyPlanner$Cell" "begun" "Z", Cond.fieldLink RX0 33 "AssemblyPlanner$Cell" "placesIn" "I", Cond.methodLink RX4 145 yX1_bestAt, Cond.instanceMethod yX1_bestAt, Cond.selects RX1 yX1_bestAt yX1_bestAt, Cond.initialized RX1, Cond.code yX1_bestAt cX1_bestAt 2 (some .int), Cond.fieldLink RX1 28 "AssemblyPlanner$Ordering" "product" "LAssemblyPlanner$Product;", Cond.fieldLink RX1 39 "AssemblyPlanner$Ordering" "fewest" "I", Cond.fieldLink RX1 25 "AssemblyPlanner$Ordering" "best" "[I", Cond.methodLink RX1 51 yX3_count, Cond.instanceMethod yX3_count, Cond.selects RX3 yX3_count yX3_count, Cond.initialized RX3, Cond.code yX3_count cX3_count 1 (some .int)]
def wsX4_step_r2 : List Cond := [Cond.fieldLink RX3 21 "AssemblyPlanner$Product" "count" "I", Cond.methodLink RX1 36 yX1_find, Cond.instanceMethod yX1_find, Cond.selects RX1 yX1_find yX1_find, Cond.code yX1_find cX1_find 3 none, Cond.fieldLink RX1 32 "AssemblyPlanner$Ordering" "known" "Z", Cond.fieldLink RX1 9 "AssemblyPlanner$Ordering" "sound" "[Z", Cond.fieldLink RX1 15 "AssemblyPlanner$Ordering" "nexts" "[I", Cond.fieldLink RX1 19 "AssemblyPlanner$Ordering" "orders" "[I", Cond.fieldLink RX1 22 "AssemblyPlanner$Ordering" "changes" "[I", Cond.methodLink RX1 57 yX3_all, Cond.instanceMethod yX3_all, Cond.selects RX3 yX3_all yX3_all, Cond.code yX3_all cX3_all 1 (some .int), Cond.methodLink RX1 60 yX3_sound, Cond.instanceMethod yX3_sound, Cond.selects RX3 yX3_sound yX3_sound, Cond.code yX3_sound cX3_sound 2 (some .boolean), Cond.fieldLink RX3 41 "AssemblyPlanner$Product" "steadyAsked" "Z", Cond.methodLink RX3 49 yX3_connected, Cond.instanceMethod yX3_connected, Cond.selects RX3 yX3_connected yX3_connected, Cond.code yX3_connected cX3_connected 3 (some .boolean), Cond.fieldLink RX3 15 "AssemblyPlanner$Product" "contacts" "[I"]
def wsX4_step_r3 : List Cond := [Cond.methodLink RX3 45 yX3_reached, Cond.static yX3_reached, Cond.code yX3_reached cX3_reached 7 (some .int), Cond.methodLink RX3 53 yX3_steady, Cond.instanceMethod yX3_steady, Cond.selects RX3 yX3_steady yX3_steady, Cond.code yX3_steady cX3_steady 2 (some .boolean), Cond.fieldLink RX3 18 "AssemblyPlanner$Product" "hinderers" "[I", Cond.fieldLink RX3 38 "AssemblyPlanner$Product" "base" "I", Cond.methodLink RX1 63 yX1_nextsOf, Cond.instanceMethod yX1_nextsOf, Cond.selects RX1 yX1_nextsOf yX1_nextsOf, Cond.code yX1_nextsOf cX1_nextsOf 5 (some .int), Cond.methodLink RX1 76 yX3_freeDirections, Cond.instanceMethod yX3_freeDirections, Cond.selects RX3 yX3_freeDirections yX3_freeDirections, Cond.code yX3_freeDirections cX3_freeDirections 5 (some .int), Cond.methodLink RX1 66 yX1_ordersFrom, Cond.instanceMethod yX1_ordersFrom, Cond.selects RX1 yX1_ordersFrom yX1_ordersFrom, Cond.code yX1_ordersFrom cX1_ordersFrom 4 (some .int), Cond.methodLink RX1 69 yX1_fewestFrom, Cond.instanceMethod yX1_fewestFrom, Cond.selects RX1 yX1_fewestFrom yX1_fewestFrom]
def wsX4_step_r4 : List Cond := [Cond.code yX1_fewestFrom cX1_fewestFrom 5 (some .int), Cond.methodLink RX1 83 Lib.Math.min.name, Cond.static Lib.Math.min.name, Cond.initialized "java/lang/Math", Cond.code Lib.Math.min.name Lib.Math.min.code 2 (some .int), Cond.methodLink RX1 79 yX1_changesWith, Cond.instanceMethod yX1_changesWith, Cond.selects RX1 yX1_changesWith yX1_changesWith, Cond.code yX1_changesWith cX1_changesWith 5 (some .int), Cond.methodLink RX1 88 yX3_tool, Cond.instanceMethod yX3_tool, Cond.selects RX3 yX3_tool yX3_tool, Cond.code yX3_tool cX3_tool 2 (some .int), Cond.fieldLink RX3 9 "AssemblyPlanner$Product" "tools" "[I", Cond.methodLink RX1 91 yX1_change, Cond.static yX1_change, Cond.code yX1_change cX1_change 2 (some .int), Cond.methodLink RX1 73 yX1_findBest, Cond.instanceMethod yX1_findBest, Cond.selects RX1 yX1_findBest yX1_findBest, Cond.code yX1_findBest cX1_findBest 6 none, Cond.methodLink RX1 94 yX1_leastNext, Cond.instanceMethod yX1_leastNext, Cond.selects RX1 yX1_leastNext yX1_leastNext]
def wsX4_step_r5 : List Cond := [Cond.code yX1_leastNext cX1_leastNext 5 (some .int), Cond.methodLink RX4 171 yX0_tryToPutIn, Cond.instanceMethod yX0_tryToPutIn, Cond.selects RX0 yX0_tryToPutIn yX0_tryToPutIn, Cond.code yX0_tryToPutIn cX0_tryToPutIn 2 (some .boolean), Cond.fieldLink RX0 22 "AssemblyPlanner$Cell" "product" "LAssemblyPlanner$Product;", Cond.fieldLink RX0 9 "AssemblyPlanner$Cell" "jamsToCome" "[I", Cond.fieldLink RX0 39 "AssemblyPlanner$Cell" "time" "I", Cond.methodLink RX0 42 yX3_tool, Cond.methodLink RX0 47 yX0_mount, Cond.instanceMethod yX0_mount, Cond.selects RX0 yX0_mount yX0_mount, Cond.code yX0_mount cX0_mount 2 none, Cond.fieldLink RX0 18 "AssemblyPlanner$Cell" "tool" "I", Cond.methodLink RX0 51 yX0_bypassed, Cond.instanceMethod yX0_bypassed, Cond.selects RX0 yX0_bypassed yX0_bypassed, Cond.code yX0_bypassed cX0_bypassed 2 (some .boolean), Cond.fieldLink RX0 15 "AssemblyPlanner$Cell" "jamsSinceStart" "[I", Cond.methodLink RX0 55 yX0_clearJam, Cond.instanceMethod yX0_clearJam, Cond.selects RX0 yX0_clearJam yX0_clearJam, Cond.code yX0_clearJam cX0_clearJam 2 none, Cond.methodLink RX0 58 yX0_putIn]
def wsX4_step_r6 : List Cond := [Cond.instanceMethod yX0_putIn, Cond.selects RX0 yX0_putIn yX0_putIn, Cond.code yX0_putIn cX0_putIn 3 none, Cond.fieldLink RX0 36 "AssemblyPlanner$Cell" "in" "I", Cond.methodLink RX0 61 yX3_freeDirections]
def wsX4_step : List Cond := .code yX4_step cX4_step 2 (some .int) :: ((wsX4_step_r1 ++ (wsX4_step_r2 ++ (wsX4_step_r3 ++ (wsX4_step_r4 ++ (wsX4_step_r5 ++ wsX4_step_r6))))) ++ wsX40 ++ wsX00 ++ wsX10 ++ wsX30 ++ (vx_atS RX4 51 "java/lang/IllegalStateException" ["java/lang/RuntimeException", "java/lang/Exception"]).filter goodWord)
def wsX4_stepBack_r1 : List Cond := [Cond.classLink RX4 47 "java/lang/IllegalStateException", Cond.initialized "java/lang/IllegalStateException", Cond.fieldLink RX4 28 "AssemblyPlanner" "ordering" "LAssemblyPlanner$Ordering;", Cond.fieldLink RX4 35 "AssemblyPlanner" "cell" "LAssemblyPlanner$Cell;", Cond.methodLink RX4 174 yX0_lastPlace, Cond.instanceMethod yX0_lastPlace, Cond.selects RX0 yX0_lastPlace yX0_lastPlace, Cond.initialized RX0, Cond.code yX0_lastPlace cX0_lastPlace 1 (some .int), Cond.fieldLink RX0 33 "AssemblyPlanner$Cell" "placesIn" "I", Cond.methodLink RX4 145 yX1_bestAt, Cond.instanceMethod yX1_bestAt, Cond.selects RX1 yX1_bestAt yX1_bestAt, Cond.initialized RX1, Cond.code yX1_bestAt cX1_bestAt 2 (some .int), Cond.fieldLink RX1 28 "AssemblyPlanner$Ordering" "product" "LAssemblyPlanner$Product;", Cond.fieldLink RX1 39 "AssemblyPlanner$Ordering" "fewest" "I", Cond.fieldLink RX1 25 "AssemblyPlanner$Ordering" "best" "[I", Cond.methodLink RX1 51 yX3_count, Cond.instanceMethod yX3_count, Cond.selects RX3 yX3_count yX3_count, Cond.initialized RX3, Cond.code yX3_count cX3_count 1 (some .int), Cond.fieldLink RX3 21 "AssemblyPlanner$Product" "count" "I"]
def wsX4_stepBack_r2 : List Cond := [Cond.methodLink RX1 36 yX1_find, Cond.instanceMethod yX1_find, Cond.selects RX1 yX1_find yX1_find, Cond.code yX1_find cX1_find 3 none, Cond.fieldLink RX1 32 "AssemblyPlanner$Ordering" "known" "Z", Cond.fieldLink RX1 9 "AssemblyPlanner$Ordering" "sound" "[Z", Cond.fieldLink RX1 15 "AssemblyPlanner$Ordering" "nexts" "[I", Cond.fieldLink RX1 19 "AssemblyPlanner$Ordering" "orders" "[I", Cond.fieldLink RX1 22 "AssemblyPlanner$Ordering" "changes" "[I", Cond.methodLink RX1 57 yX3_all, Cond.instanceMethod yX3_all, Cond.selects RX3 yX3_all yX3_all, Cond.code yX3_all cX3_all 1 (some .int), Cond.methodLink RX1 60 yX3_sound, Cond.instanceMethod yX3_sound, Cond.selects RX3 yX3_sound yX3_sound, Cond.code yX3_sound cX3_sound 2 (some .boolean), Cond.fieldLink RX3 41 "AssemblyPlanner$Product" "steadyAsked" "Z", Cond.methodLink RX3 49 yX3_connected, Cond.instanceMethod yX3_connected, Cond.selects RX3 yX3_connected yX3_connected, Cond.code yX3_connected cX3_connected 3 (some .boolean), Cond.fieldLink RX3 15 "AssemblyPlanner$Product" "contacts" "[I", Cond.methodLink RX3 45 yX3_reached]
def wsX4_stepBack_r3 : List Cond := [Cond.static yX3_reached, Cond.code yX3_reached cX3_reached 7 (some .int), Cond.methodLink RX3 53 yX3_steady, Cond.instanceMethod yX3_steady, Cond.selects RX3 yX3_steady yX3_steady, Cond.code yX3_steady cX3_steady 2 (some .boolean), Cond.fieldLink RX3 18 "AssemblyPlanner$Product" "hinderers" "[I", Cond.fieldLink RX3 38 "AssemblyPlanner$Product" "base" "I", Cond.methodLink RX1 63 yX1_nextsOf, Cond.instanceMethod yX1_nextsOf, Cond.selects RX1 yX1_nextsOf yX1_nextsOf, Cond.code yX1_nextsOf cX1_nextsOf 5 (some .int), Cond.methodLink RX1 76 yX3_freeDirections, Cond.instanceMethod yX3_freeDirections, Cond.selects RX3 yX3_freeDirections yX3_freeDirections, Cond.code yX3_freeDirections cX3_freeDirections 5 (some .int), Cond.methodLink RX1 66 yX1_ordersFrom, Cond.instanceMethod yX1_ordersFrom, Cond.selects RX1 yX1_ordersFrom yX1_ordersFrom, Cond.code yX1_ordersFrom cX1_ordersFrom 4 (some .int), Cond.methodLink RX1 69 yX1_fewestFrom, Cond.instanceMethod yX1_fewestFrom, Cond.selects RX1 yX1_fewestFrom yX1_fewestFrom, Cond.code yX1_fewestFrom cX1_fewestFrom 5 (some .int)]
def wsX4_stepBack_r4 : List Cond := [Cond.methodLink RX1 83 Lib.Math.min.name, Cond.static Lib.Math.min.name, Cond.initialized "java/lang/Math", Cond.code Lib.Math.min.name Lib.Math.min.code 2 (some .int), Cond.methodLink RX1 79 yX1_changesWith, Cond.instanceMethod yX1_changesWith, Cond.selects RX1 yX1_changesWith yX1_changesWith, Cond.code yX1_changesWith cX1_changesWith 5 (some .int), Cond.methodLink RX1 88 yX3_tool, Cond.instanceMethod yX3_tool, Cond.selects RX3 yX3_tool yX3_tool, Cond.code yX3_tool cX3_tool 2 (some .int), Cond.fieldLink RX3 9 "AssemblyPlanner$Product" "tools" "[I", Cond.methodLink RX1 91 yX1_change, Cond.static yX1_change, Cond.code yX1_change cX1_change 2 (some .int), Cond.methodLink RX1 73 yX1_findBest, Cond.instanceMethod yX1_findBest, Cond.selects RX1 yX1_findBest yX1_findBest, Cond.code yX1_findBest cX1_findBest 6 none, Cond.methodLink RX1 94 yX1_leastNext, Cond.instanceMethod yX1_leastNext, Cond.selects RX1 yX1_leastNext yX1_leastNext, Cond.code yX1_leastNext cX1_leastNext 5 (some .int)]
def wsX4_stepBack_r5 : List Cond := [Cond.methodLink RX4 179 yX0_takeOut, Cond.instanceMethod yX0_takeOut, Cond.selects RX0 yX0_takeOut yX0_takeOut, Cond.code yX0_takeOut cX0_takeOut 2 none, Cond.fieldLink RX0 36 "AssemblyPlanner$Cell" "in" "I", Cond.fieldLink RX0 39 "AssemblyPlanner$Cell" "time" "I"]
def wsX4_stepBack : List Cond := .code yX4_stepBack cX4_stepBack 2 (some .int) :: ((wsX4_stepBack_r1 ++ (wsX4_stepBack_r2 ++ (wsX4_stepBack_r3 ++ (wsX4_stepBack_r4 ++ wsX4_stepBack_r5)))) ++ wsX40 ++ wsX00 ++ wsX10 ++ wsX30 ++ (vx_atS RX4 51 "java/lang/IllegalStateException" ["java/lang/RuntimeException", "java/lang/Exception"]).filter goodWord)
def wsX4_built : List Cond := .code yX4_built cX4_built 1 (some .int) :: ([.fieldLink RX4 35 "AssemblyPlanner" "cell" "LAssemblyPlanner$Cell;", .methodLink RX4 182 yX0_partsIn, .instanceMethod yX0_partsIn, .selects RX0 yX0_partsIn yX0_partsIn, .initialized RX0, .code yX0_partsIn cX0_partsIn 1 (some .int), .fieldLink RX0 36 "AssemblyPlanner$Cell" "in" "I"] ++ wsX40 ++ wsX00)
def wsX4_clock : List Cond := .code yX4_clock cX4_clock 1 (some .int) :: ([.fieldLink RX4 35 "AssemblyPlanner" "cell" "LAssemblyPlanner$Cell;", .methodLink RX4 185 yX0_timeSinceStart, .instanceMethod yX0_timeSinceStart, .selects RX0 yX0_timeSinceStart yX0_timeSinceStart, .initialized RX0, .code yX0_timeSinceStart cX0_timeSinceStart 1 (some .int), .fieldLink RX0 39 "AssemblyPlanner$Cell" "time" "I"] ++ wsX40 ++ wsX00)
def wsX4_mounted : List Cond := .code yX4_mounted cX4_mounted 1 (some .int) :: ([.fieldLink RX4 35 "AssemblyPlanner" "cell" "LAssemblyPlanner$Cell;", .methodLink RX4 188 yX0_toolMounted, .instanceMethod yX0_toolMounted, .selects RX0 yX0_toolMounted yX0_toolMounted, .initialized RX0, .code yX0_toolMounted cX0_toolMounted 1 (some .int), .fieldLink RX0 18 "AssemblyPlanner$Cell" "tool" "I"] ++ wsX40 ++ wsX00)
def wsX4_isBypassed : List Cond := .code yX4_isBypassed cX4_isBypassed 2 (some .boolean) :: ([.fieldLink RX4 35 "AssemblyPlanner" "cell" "LAssemblyPlanner$Cell;", .methodLink RX4 61 yX4_needPart, .instanceMethod yX4_needPart, .selects RX4 yX4_needPart yX4_needPart, .initialized RX4, .code yX4_needPart cX4_needPart 2 none, .classLink RX4 148 "java/lang/IndexOutOfBoundsException", .initialized "java/lang/IndexOutOfBoundsException", .fieldLink RX4 12 "AssemblyPlanner" "product" "LAssemblyPlanner$Product;", .methodLink RX4 43 yX3_count, .instanceMethod yX3_count, .selects RX3 yX3_count yX3_count, .initialized RX3, .code yX3_count cX3_count 1 (some .int), .fieldLink RX3 21 "AssemblyPlanner$Product" "count" "I", .methodLink RX4 191 yX0_bypassed, .instanceMethod yX0_bypassed, .selects RX0 yX0_bypassed yX0_bypassed, .initialized RX0, .code yX0_bypassed cX0_bypassed 2 (some .boolean), .fieldLink RX0 15 "AssemblyPlanner$Cell" "jamsSinceStart" "[I"] ++ wsX40 ++ wsX30 ++ wsX00 ++ (vx_atS RX4 152 "java/lang/IndexOutOfBoundsException" ["java/lang/RuntimeException", "java/lang/Exception"]).filter goodWord)
def wsX5_init : List Cond := .code yX5_init cX5_init 1 none :: ([.methodLink RX5 1 objectInit, .instanceMethod objectInit, .code objectInit ⟨#[0xb1]⟩ 1 none, .arrayClass .int, .fieldLink RX5 7 "AssemblyPlannerModel" "tools" "[I", .fieldLink RX5 13 "AssemblyPlannerModel" "contacts" "[I", .fieldLink RX5 16 "AssemblyPlannerModel" "hinders" "[I", .fieldLink RX5 19 "AssemblyPlannerModel" "jams" "[I", .fieldLink RX5 22 "AssemblyPlannerModel" "cleared" "[I", .fieldLink RX5 25 "AssemblyPlannerModel" "ways" "[I", .fieldLink RX5 28 "AssemblyPlannerModel" "depths" "[I", .fieldLink RX5 31 "AssemblyPlannerModel" "counts" "[I", .fieldLink RX5 34 "AssemblyPlannerModel" "changes" "[I", .fieldLink RX5 37 "AssemblyPlannerModel" "order" "[I"] ++ wsX50)
def wsX5_thrown : List Cond := .code yX5_thrown cX5_thrown 1 (some .int) :: ([.fieldLink RX5 40 "AssemblyPlannerModel" "thrown" "I"] ++ wsX50)
def wsX5_holds : List Cond := .code yX5_holds cX5_holds 2 (some .boolean) :: ([.fieldLink RX5 40 "AssemblyPlannerModel" "thrown" "I"] ++ wsX50)
def wsX5_isPart : List Cond := .code yX5_isPart cX5_isPart 2 (some .boolean) :: ([.fieldLink RX5 44 "AssemblyPlannerModel" "parts" "I"] ++ wsX50)
def wsX5_isTool : List Cond := .code yX5_isTool cX5_isTool 1 (some .boolean) :: ([])
def wsX5_isDirection : List Cond := .code yX5_isDirection cX5_isDirection 1 (some .boolean) :: ([])
def wsX5_whole : List Cond := .code yX5_whole cX5_whole 1 (some .int) :: ([.fieldLink RX5 44 "AssemblyPlannerModel" "parts" "I"] ++ wsX50)
def wsX5_bits : List Cond := .code yX5_bits cX5_bits 3 (some .int) :: ([])
def wsX5_addPart : List Cond := .code yX5_addPart cX5_addPart 2 (some .int) :: ([.fieldLink RX5 44 "AssemblyPlannerModel" "parts" "I", .fieldLink RX5 7 "AssemblyPlannerModel" "tools" "[I", .fieldLink RX5 54 "AssemblyPlannerModel" "isBegun" "Z", .methodLink RX5 47 yX5_isTool, .static yX5_isTool, .initialized RX5, .code yX5_isTool cX5_isTool 1 (some .boolean), .methodLink RX5 51 yX5_holds, .instanceMethod yX5_holds, .selects RX5 yX5_holds yX5_holds, .code yX5_holds cX5_holds 2 (some .boolean), .fieldLink RX5 40 "AssemblyPlannerModel" "thrown" "I"] ++ wsX50)
def wsX5_setTool : List Cond := .code yX5_setTool cX5_setTool 4 (some .int) :: ([.fieldLink RX5 7 "AssemblyPlannerModel" "tools" "[I", .fieldLink RX5 54 "AssemblyPlannerModel" "isBegun" "Z", .methodLink RX5 58 yX5_isPart, .instanceMethod yX5_isPart, .selects RX5 yX5_isPart yX5_isPart, .initialized RX5, .code yX5_isPart cX5_isPart 2 (some .boolean), .fieldLink RX5 44 "AssemblyPlannerModel" "parts" "I", .methodLink RX5 47 yX5_isTool, .static yX5_isTool, .code yX5_isTool cX5_isTool 1 (some .boolean), .methodLink RX5 51 yX5_holds, .instanceMethod yX5_holds, .selects RX5 yX5_holds yX5_holds, .code yX5_holds cX5_holds 2 (some .boolean), .fieldLink RX5 40 "AssemblyPlannerModel" "thrown" "I"] ++ wsX50)
def wsX5_contact : List Cond := .code yX5_contact cX5_contact 4 (some .int) :: ([.fieldLink RX5 13 "AssemblyPlannerModel" "contacts" "[I", .fieldLink RX5 54 "AssemblyPlannerModel" "isBegun" "Z", .methodLink RX5 58 yX5_isPart, .instanceMethod yX5_isPart, .selects RX5 yX5_isPart yX5_isPart, .initialized RX5, .code yX5_isPart cX5_isPart 2 (some .boolean), .fieldLink RX5 44 "AssemblyPlannerModel" "parts" "I", .methodLink RX5 51 yX5_holds, .instanceMethod yX5_holds, .selects RX5 yX5_holds yX5_holds, .code yX5_holds cX5_holds 2 (some .boolean), .fieldLink RX5 40 "AssemblyPlannerModel" "thrown" "I", .methodLink RX5 61 yX5_bits, .static yX5_bits, .code yX5_bits cX5_bits 3 (some .int)] ++ wsX50)
def wsX5_hinder : List Cond := .code yX5_hinder cX5_hinder 8 (some .int) :: ([.fieldLink RX5 16 "AssemblyPlannerModel" "hinders" "[I", .fieldLink RX5 54 "AssemblyPlannerModel" "isBegun" "Z", .methodLink RX5 58 yX5_isPart, .instanceMethod yX5_isPart, .selects RX5 yX5_isPart yX5_isPart, .initialized RX5, .code yX5_isPart cX5_isPart 2 (some .boolean), .fieldLink RX5 44 "AssemblyPlannerModel" "parts" "I", .methodLink RX5 65 yX5_isDirection, .static yX5_isDirection, .code yX5_isDirection cX5_isDirection 1 (some .boolean), .methodLink RX5 51 yX5_holds, .instanceMethod yX5_holds, .selects RX5 yX5_holds yX5_holds, .code yX5_holds cX5_holds 2 (some .boolean), .fieldLink RX5 40 "AssemblyPlannerModel" "thrown" "I", .methodLink RX5 61 yX5_bits, .static yX5_bits, .code yX5_bits cX5_bits 3 (some .int)] ++ wsX50)
def wsX5_setBase : List Cond := .code yX5_setBase cX5_setBase 3 (some .int) :: ([.fieldLink RX5 68 "AssemblyPlannerModel" "base" "I", .fieldLink RX5 54 "AssemblyPlannerModel" "isBegun" "Z", .methodLink RX5 58 yX5_isPart, .instanceMethod yX5_isPart, .selects RX5 yX5_isPart yX5_isPart, .initialized RX5, .code yX5_isPart cX5_isPart 2 (some .boolean), .fieldLink RX5 44 "AssemblyPlannerModel" "parts" "I", .methodLink RX5 51 yX5_holds, .instanceMethod yX5_holds, .selects RX5 yX5_holds yX5_holds, .code yX5_holds cX5_holds 2 (some .boolean), .fieldLink RX5 40 "AssemblyPlannerModel" "thrown" "I"] ++ wsX50)
def wsX5_askSteady : List Cond := .code yX5_askSteady cX5_askSteady 3 (some .boolean) :: ([.fieldLink RX5 40 "AssemblyPlannerModel" "thrown" "I", .fieldLink RX5 71 "AssemblyPlannerModel" "isAsked" "Z", .fieldLink RX5 54 "AssemblyPlannerModel" "isBegun" "Z"] ++ wsX50)
def wsX5_parts : List Cond := .code yX5_parts cX5_parts 1 (some .int) :: ([.fieldLink RX5 40 "AssemblyPlannerModel" "thrown" "I", .fieldLink RX5 44 "AssemblyPlannerModel" "parts" "I"] ++ wsX50)
def wsX5_isSet : List Cond := .code yX5_isSet cX5_isSet 2 (some .boolean) :: ([.methodLink RX5 74 yX5_whole, .instanceMethod yX5_whole, .selects RX5 yX5_whole yX5_whole, .initialized RX5, .code yX5_whole cX5_whole 1 (some .int), .fieldLink RX5 44 "AssemblyPlannerModel" "parts" "I"] ++ wsX50)
def wsX5_reached : List Cond := .code yX5_reached cX5_reached 6 (some .int) :: ([.fieldLink RX5 44 "AssemblyPlannerModel" "parts" "I", .fieldLink RX5 13 "AssemblyPlannerModel" "contacts" "[I"] ++ wsX50)
def wsX5_hangsTogether : List Cond := .code yX5_hangsTogether cX5_hangsTogether 2 (some .boolean) :: ([.methodLink RX5 78 yX5_reached, .instanceMethod yX5_reached, .selects RX5 yX5_reached yX5_reached, .initialized RX5, .code yX5_reached cX5_reached 6 (some .int), .fieldLink RX5 44 "AssemblyPlannerModel" "parts" "I", .fieldLink RX5 13 "AssemblyPlannerModel" "contacts" "[I"] ++ wsX50)
def wsX5_isHeld : List Cond := .code yX5_isHeld cX5_isHeld 6 (some .boolean) :: ([.fieldLink RX5 68 "AssemblyPlannerModel" "base" "I", .fieldLink RX5 44 "AssemblyPlannerModel" "parts" "I", .fieldLink RX5 16 "AssemblyPlannerModel" "hinders" "[I"] ++ wsX50)
def wsX5_isSound : List Cond := .code yX5_isSound cX5_isSound 2 (some .boolean) :: ([.fieldLink RX5 71 "AssemblyPlannerModel" "isAsked" "Z", .methodLink RX5 82 yX5_hangsTogether, .instanceMethod yX5_hangsTogether, .selects RX5 yX5_hangsTogether yX5_hangsTogether, .initialized RX5, .code yX5_hangsTogether cX5_hangsTogether 2 (some .boolean), .methodLink RX5 78 yX5_reached, .instanceMethod yX5_reached, .selects RX5 yX5_reached yX5_reached, .code yX5_reached cX5_reached 6 (some .int), .fieldLink RX5 44 "AssemblyPlannerModel" "parts" "I", .fieldLink RX5 13 "AssemblyPlannerModel" "contacts" "[I", .methodLink RX5 85 yX5_isHeld, .instanceMethod yX5_isHeld, .selects RX5 yX5_isHeld yX5_isHeld, .code yX5_isHeld cX5_isHeld 6 (some .boolean), .fieldLink RX5 68 "AssemblyPlannerModel" "base" "I", .fieldLink RX5 16 "AssemblyPlannerModel" "hinders" "[I"] ++ wsX50)
def wsX5_freeOf : List Cond := .code yX5_freeOf cX5_freeOf 5 (some .int) :: ([.fieldLink RX5 16 "AssemblyPlannerModel" "hinders" "[I"] ++ wsX50)
def wsX5_isConnected : List Cond := .code yX5_isConnected cX5_isConnected 2 (some .boolean) :: ([.methodLink RX5 88 yX5_isSet, .instanceMethod yX5_isSet, .selects RX5 yX5_isSet yX5_isSet, .initialized RX5, .code yX5_isSet cX5_isSet 2 (some .boolean), .methodLink RX5 74 yX5_whole, .instanceMethod yX5_whole, .selects RX5 yX5_whole yX5_whole, .code yX5_whole cX5_whole 1 (some .int), .fieldLink RX5 44 "AssemblyPlannerModel" "parts" "I", .methodLink RX5 51 yX5_holds, .instanceMethod yX5_holds, .selects RX5 yX5_holds yX5_holds, .code yX5_holds cX5_holds 2 (some .boolean), .fieldLink RX5 40 "AssemblyPlannerModel" "thrown" "I", .methodLink RX5 82 yX5_hangsTogether, .instanceMethod yX5_hangsTogether, .selects RX5 yX5_hangsTogether yX5_hangsTogether, .code yX5_hangsTogether cX5_hangsTogether 2 (some .boolean), .methodLink RX5 78 yX5_reached, .instanceMethod yX5_reached, .selects RX5 yX5_reached yX5_reached, .code yX5_reached cX5_reached 6 (some .int), .fieldLink RX5 13 "AssemblyPlannerModel" "contacts" "[I"] ++ wsX50)
def wsX5_isSteady : List Cond := .code yX5_isSteady cX5_isSteady 2 (some .boolean) :: ([.methodLink RX5 88 yX5_isSet, .instanceMethod yX5_isSet, .selects RX5 yX5_isSet yX5_isSet, .initialized RX5, .code yX5_isSet cX5_isSet 2 (some .boolean), .methodLink RX5 74 yX5_whole, .instanceMethod yX5_whole, .selects RX5 yX5_whole yX5_whole, .code yX5_whole cX5_whole 1 (some .int), .fieldLink RX5 44 "AssemblyPlannerModel" "parts" "I", .methodLink RX5 51 yX5_holds, .instanceMethod yX5_holds, .selects RX5 yX5_holds yX5_holds, .code yX5_holds cX5_holds 2 (some .boolean), .fieldLink RX5 40 "AssemblyPlannerModel" "thrown" "I", .methodLink RX5 85 yX5_isHeld, .instanceMethod yX5_isHeld, .selects RX5 yX5_isHeld yX5_isHeld, .code yX5_isHeld cX5_isHeld 6 (some .boolean), .fieldLink RX5 68 "AssemblyPlannerModel" "base" "I", .fieldLink RX5 16 "AssemblyPlannerModel" "hinders" "[I"] ++ wsX50)
def wsX5_isOf : List Cond := .code yX5_isOf cX5_isOf 3 (some .boolean) :: ([.methodLink RX5 58 yX5_isPart, .instanceMethod yX5_isPart, .selects RX5 yX5_isPart yX5_isPart, .initialized RX5, .code yX5_isPart cX5_isPart 2 (some .boolean), .fieldLink RX5 44 "AssemblyPlannerModel" "parts" "I", .methodLink RX5 88 yX5_isSet, .instanceMethod yX5_isSet, .selects RX5 yX5_isSet yX5_isSet, .code yX5_isSet cX5_isSet 2 (some .boolean), .methodLink RX5 74 yX5_whole, .instanceMethod yX5_whole, .selects RX5 yX5_whole yX5_whole, .code yX5_whole cX5_whole 1 (some .int), .methodLink RX5 51 yX5_holds, .instanceMethod yX5_holds, .selects RX5 yX5_holds yX5_holds, .code yX5_holds cX5_holds 2 (some .boolean), .fieldLink RX5 40 "AssemblyPlannerModel" "thrown" "I"] ++ wsX50)
def wsX5_free_r1 : List Cond := [Cond.methodLink RX5 91 yX5_isOf, Cond.instanceMethod yX5_isOf, Cond.selects RX5 yX5_isOf yX5_isOf, Cond.initialized RX5, Cond.code yX5_isOf cX5_isOf 3 (some .boolean), Cond.methodLink RX5 58 yX5_isPart, Cond.instanceMethod yX5_isPart, Cond.selects RX5 yX5_isPart yX5_isPart, Cond.code yX5_isPart cX5_isPart 2 (some .boolean), Cond.fieldLink RX5 44 "AssemblyPlannerModel" "parts" "I", Cond.methodLink RX5 88 yX5_isSet, Cond.instanceMethod yX5_isSet, Cond.selects RX5 yX5_isSet yX5_isSet, Cond.code yX5_isSet cX5_isSet 2 (some .boolean), Cond.methodLink RX5 74 yX5_whole, Cond.instanceMethod yX5_whole, Cond.selects RX5 yX5_whole yX5_whole, Cond.code yX5_whole cX5_whole 1 (some .int), Cond.methodLink RX5 51 yX5_holds, Cond.instanceMethod yX5_holds, Cond.selects RX5 yX5_holds yX5_holds, Cond.code yX5_holds cX5_holds 2 (some .boolean), Cond.fieldLink RX5 40 "AssemblyPlannerModel" "thrown" "I", Cond.methodLink RX5 95 yX5_freeOf]
def wsX5_free_r2 : List Cond := [Cond.instanceMethod yX5_freeOf, Cond.selects RX5 yX5_freeOf yX5_freeOf, Cond.code yX5_freeOf cX5_freeOf 5 (some .int), Cond.fieldLink RX5 16 "AssemblyPlannerModel" "hinders" "[I"]
def wsX5_free : List Cond := .code yX5_free cX5_free 3 (some .int) :: ((wsX5_free_r1 ++ wsX5_free_r2) ++ wsX50)
def wsX5_canTake_r1 : List Cond := [Cond.methodLink RX5 91 yX5_isOf, Cond.instanceMethod yX5_isOf, Cond.selects RX5 yX5_isOf yX5_isOf, Cond.initialized RX5, Cond.code yX5_isOf cX5_isOf 3 (some .boolean), Cond.methodLink RX5 58 yX5_isPart, Cond.instanceMethod yX5_isPart, Cond.selects RX5 yX5_isPart yX5_isPart, Cond.code yX5_isPart cX5_isPart 2 (some .boolean), Cond.fieldLink RX5 44 "AssemblyPlannerModel" "parts" "I", Cond.methodLink RX5 88 yX5_isSet, Cond.instanceMethod yX5_isSet, Cond.selects RX5 yX5_isSet yX5_isSet, Cond.code yX5_isSet cX5_isSet 2 (some .boolean), Cond.methodLink RX5 74 yX5_whole, Cond.instanceMethod yX5_whole, Cond.selects RX5 yX5_whole yX5_whole, Cond.code yX5_whole cX5_whole 1 (some .int), Cond.methodLink RX5 51 yX5_holds, Cond.instanceMethod yX5_holds, Cond.selects RX5 yX5_holds yX5_holds, Cond.code yX5_holds cX5_holds 2 (some .boolean), Cond.fieldLink RX5 40 "AssemblyPlannerModel" "thrown" "I", Cond.methodLink RX5 98 yX5_isSound]
def wsX5_canTake_r2 : List Cond := [Cond.instanceMethod yX5_isSound, Cond.selects RX5 yX5_isSound yX5_isSound, Cond.code yX5_isSound cX5_isSound 2 (some .boolean), Cond.fieldLink RX5 71 "AssemblyPlannerModel" "isAsked" "Z", Cond.methodLink RX5 82 yX5_hangsTogether, Cond.instanceMethod yX5_hangsTogether, Cond.selects RX5 yX5_hangsTogether yX5_hangsTogether, Cond.code yX5_hangsTogether cX5_hangsTogether 2 (some .boolean), Cond.methodLink RX5 78 yX5_reached, Cond.instanceMethod yX5_reached, Cond.selects RX5 yX5_reached yX5_reached, Cond.code yX5_reached cX5_reached 6 (some .int), Cond.fieldLink RX5 13 "AssemblyPlannerModel" "contacts" "[I", Cond.methodLink RX5 85 yX5_isHeld, Cond.instanceMethod yX5_isHeld, Cond.selects RX5 yX5_isHeld yX5_isHeld, Cond.code yX5_isHeld cX5_isHeld 6 (some .boolean), Cond.fieldLink RX5 68 "AssemblyPlannerModel" "base" "I", Cond.fieldLink RX5 16 "AssemblyPlannerModel" "hinders" "[I", Cond.methodLink RX5 95 yX5_freeOf, Cond.instanceMethod yX5_freeOf, Cond.selects RX5 yX5_freeOf yX5_freeOf, Cond.code yX5_freeOf cX5_freeOf 5 (some .int)]
def wsX5_canTake : List Cond := .code yX5_canTake cX5_canTake 3 (some .boolean) :: ((wsX5_canTake_r1 ++ wsX5_canTake_r2) ++ wsX50)
def wsX5_moving : List Cond := .code yX5_moving cX5_moving 6 (some .int) :: ([.fieldLink RX5 44 "AssemblyPlannerModel" "parts" "I", .fieldLink RX5 16 "AssemblyPlannerModel" "hinders" "[I"] ++ wsX50)
def wsX5_bound : List Cond := .code yX5_bound cX5_bound 7 (some .int) :: ([.fieldLink RX5 44 "AssemblyPlannerModel" "parts" "I", .methodLink RX5 101 yX5_moving, .instanceMethod yX5_moving, .selects RX5 yX5_moving yX5_moving, .initialized RX5, .code yX5_moving cX5_moving 6 (some .int), .fieldLink RX5 16 "AssemblyPlannerModel" "hinders" "[I"] ++ wsX50)
def wsX5_movesWith : List Cond := .code yX5_movesWith cX5_movesWith 3 (some .int) :: ([.methodLink RX5 58 yX5_isPart, .instanceMethod yX5_isPart, .selects RX5 yX5_isPart yX5_isPart, .initialized RX5, .code yX5_isPart cX5_isPart 2 (some .boolean), .fieldLink RX5 44 "AssemblyPlannerModel" "parts" "I", .methodLink RX5 65 yX5_isDirection, .static yX5_isDirection, .code yX5_isDirection cX5_isDirection 1 (some .boolean), .methodLink RX5 51 yX5_holds, .instanceMethod yX5_holds, .selects RX5 yX5_holds yX5_holds, .code yX5_holds cX5_holds 2 (some .boolean), .fieldLink RX5 40 "AssemblyPlannerModel" "thrown" "I", .methodLink RX5 101 yX5_moving, .instanceMethod yX5_moving, .selects RX5 yX5_moving yX5_moving, .code yX5_moving cX5_moving 6 (some .int), .fieldLink RX5 16 "AssemblyPlannerModel" "hinders" "[I"] ++ wsX50)
def wsX5_boundTo : List Cond := .code yX5_boundTo cX5_boundTo 3 (some .int) :: ([.methodLink RX5 58 yX5_isPart, .instanceMethod yX5_isPart, .selects RX5 yX5_isPart yX5_isPart, .initialized RX5, .code yX5_isPart cX5_isPart 2 (some .boolean), .fieldLink RX5 44 "AssemblyPlannerModel" "parts" "I", .methodLink RX5 65 yX5_isDirection, .static yX5_isDirection, .code yX5_isDirection cX5_isDirection 1 (some .boolean), .methodLink RX5 51 yX5_holds, .instanceMethod yX5_holds, .selects RX5 yX5_holds yX5_holds, .code yX5_holds cX5_holds 2 (some .boolean), .fieldLink RX5 40 "AssemblyPlannerModel" "thrown" "I", .methodLink RX5 104 yX5_bound, .instanceMethod yX5_bound, .selects RX5 yX5_bound yX5_bound, .code yX5_bound cX5_bound 7 (some .int), .methodLink RX5 101 yX5_moving, .instanceMethod yX5_moving, .selects RX5 yX5_moving yX5_moving, .code yX5_moving cX5_moving 6 (some .int), .fieldLink RX5 16 "AssemblyPlannerModel" "hinders" "[I"] ++ wsX50)
def wsX5_groups : List Cond := .code yX5_groups cX5_groups 5 (some .int) :: ([.fieldLink RX5 44 "AssemblyPlannerModel" "parts" "I", .methodLink RX5 65 yX5_isDirection, .static yX5_isDirection, .initialized RX5, .code yX5_isDirection cX5_isDirection 1 (some .boolean), .methodLink RX5 51 yX5_holds, .instanceMethod yX5_holds, .selects RX5 yX5_holds yX5_holds, .code yX5_holds cX5_holds 2 (some .boolean), .fieldLink RX5 40 "AssemblyPlannerModel" "thrown" "I", .methodLink RX5 104 yX5_bound, .instanceMethod yX5_bound, .selects RX5 yX5_bound yX5_bound, .code yX5_bound cX5_bound 7 (some .int), .methodLink RX5 101 yX5_moving, .instanceMethod yX5_moving, .selects RX5 yX5_moving yX5_moving, .code yX5_moving cX5_moving 6 (some .int), .fieldLink RX5 16 "AssemblyPlannerModel" "hinders" "[I"] ++ wsX50)
def wsX5_canPart : List Cond := .code yX5_canPart cX5_canPart 7 (some .boolean) :: ([.fieldLink RX5 44 "AssemblyPlannerModel" "parts" "I", .fieldLink RX5 16 "AssemblyPlannerModel" "hinders" "[I"] ++ wsX50)
def wsX5_isSplit : List Cond := .code yX5_isSplit cX5_isSplit 5 (some .boolean) :: ([.methodLink RX5 82 yX5_hangsTogether, .instanceMethod yX5_hangsTogether, .selects RX5 yX5_hangsTogether yX5_hangsTogether, .initialized RX5, .code yX5_hangsTogether cX5_hangsTogether 2 (some .boolean), .methodLink RX5 78 yX5_reached, .instanceMethod yX5_reached, .selects RX5 yX5_reached yX5_reached, .code yX5_reached cX5_reached 6 (some .int), .fieldLink RX5 44 "AssemblyPlannerModel" "parts" "I", .fieldLink RX5 13 "AssemblyPlannerModel" "contacts" "[I", .methodLink RX5 107 yX5_canPart, .instanceMethod yX5_canPart, .selects RX5 yX5_canPart yX5_canPart, .code yX5_canPart cX5_canPart 7 (some .boolean), .fieldLink RX5 16 "AssemblyPlannerModel" "hinders" "[I"] ++ wsX50)
def wsX5_splits_r1 : List Cond := [Cond.methodLink RX5 88 yX5_isSet, Cond.instanceMethod yX5_isSet, Cond.selects RX5 yX5_isSet yX5_isSet, Cond.initialized RX5, Cond.code yX5_isSet cX5_isSet 2 (some .boolean), Cond.methodLink RX5 74 yX5_whole, Cond.instanceMethod yX5_whole, Cond.selects RX5 yX5_whole yX5_whole, Cond.code yX5_whole cX5_whole 1 (some .int), Cond.fieldLink RX5 44 "AssemblyPlannerModel" "parts" "I", Cond.methodLink RX5 51 yX5_holds, Cond.instanceMethod yX5_holds, Cond.selects RX5 yX5_holds yX5_holds, Cond.code yX5_holds cX5_holds 2 (some .boolean), Cond.fieldLink RX5 40 "AssemblyPlannerModel" "thrown" "I", Cond.methodLink RX5 82 yX5_hangsTogether, Cond.instanceMethod yX5_hangsTogether, Cond.selects RX5 yX5_hangsTogether yX5_hangsTogether, Cond.code yX5_hangsTogether cX5_hangsTogether 2 (some .boolean), Cond.methodLink RX5 78 yX5_reached, Cond.instanceMethod yX5_reached, Cond.selects RX5 yX5_reached yX5_reached, Cond.code yX5_reached cX5_reached 6 (some .int), Cond.fieldLink RX5 13 "AssemblyPlannerModel" "contacts" "[I"]
def wsX5_splits_r2 : List Cond := [Cond.methodLink RX5 110 yX5_isSplit, Cond.instanceMethod yX5_isSplit, Cond.selects RX5 yX5_isSplit yX5_isSplit, Cond.code yX5_isSplit cX5_isSplit 5 (some .boolean), Cond.methodLink RX5 107 yX5_canPart, Cond.instanceMethod yX5_canPart, Cond.selects RX5 yX5_canPart yX5_canPart, Cond.code yX5_canPart cX5_canPart 7 (some .boolean), Cond.fieldLink RX5 16 "AssemblyPlannerModel" "hinders" "[I"]
def wsX5_splits : List Cond := .code yX5_splits cX5_splits 4 (some .int) :: ((wsX5_splits_r1 ++ wsX5_splits_r2) ++ wsX50)
def wsX5_comesApart_r1 : List Cond := [Cond.fieldLink RX5 25 "AssemblyPlannerModel" "ways" "[I", Cond.fieldLink RX5 28 "AssemblyPlannerModel" "depths" "[I", Cond.methodLink RX5 74 yX5_whole, Cond.instanceMethod yX5_whole, Cond.selects RX5 yX5_whole yX5_whole, Cond.initialized RX5, Cond.code yX5_whole cX5_whole 1 (some .int), Cond.fieldLink RX5 44 "AssemblyPlannerModel" "parts" "I", Cond.methodLink RX5 82 yX5_hangsTogether, Cond.instanceMethod yX5_hangsTogether, Cond.selects RX5 yX5_hangsTogether yX5_hangsTogether, Cond.code yX5_hangsTogether cX5_hangsTogether 2 (some .boolean), Cond.methodLink RX5 78 yX5_reached, Cond.instanceMethod yX5_reached, Cond.selects RX5 yX5_reached yX5_reached, Cond.code yX5_reached cX5_reached 6 (some .int), Cond.fieldLink RX5 13 "AssemblyPlannerModel" "contacts" "[I", Cond.methodLink RX5 110 yX5_isSplit, Cond.instanceMethod yX5_isSplit, Cond.selects RX5 yX5_isSplit yX5_isSplit, Cond.code yX5_isSplit cX5_isSplit 5 (some .boolean), Cond.methodLink RX5 107 yX5_canPart, Cond.instanceMethod yX5_canPart, Cond.selects RX5 yX5_canPart yX5_canPart]
def wsX5_comesApart_r2 : List Cond := [Cond.code yX5_canPart cX5_canPart 7 (some .boolean), Cond.fieldLink RX5 16 "AssemblyPlannerModel" "hinders" "[I"]
def wsX5_comesApart : List Cond := .code yX5_comesApart cX5_comesApart 6 none :: ((wsX5_comesApart_r1 ++ wsX5_comesApart_r2) ++ wsX50)
def wsX5_ways_r1 : List Cond := [Cond.fieldLink RX5 44 "AssemblyPlannerModel" "parts" "I", Cond.fieldLink RX5 25 "AssemblyPlannerModel" "ways" "[I", Cond.methodLink RX5 51 yX5_holds, Cond.instanceMethod yX5_holds, Cond.selects RX5 yX5_holds yX5_holds, Cond.initialized RX5, Cond.code yX5_holds cX5_holds 2 (some .boolean), Cond.fieldLink RX5 40 "AssemblyPlannerModel" "thrown" "I", Cond.methodLink RX5 113 yX5_comesApart, Cond.instanceMethod yX5_comesApart, Cond.selects RX5 yX5_comesApart yX5_comesApart, Cond.code yX5_comesApart cX5_comesApart 6 none, Cond.fieldLink RX5 28 "AssemblyPlannerModel" "depths" "[I", Cond.methodLink RX5 74 yX5_whole, Cond.instanceMethod yX5_whole, Cond.selects RX5 yX5_whole yX5_whole, Cond.code yX5_whole cX5_whole 1 (some .int), Cond.methodLink RX5 82 yX5_hangsTogether, Cond.instanceMethod yX5_hangsTogether, Cond.selects RX5 yX5_hangsTogether yX5_hangsTogether, Cond.code yX5_hangsTogether cX5_hangsTogether 2 (some .boolean), Cond.methodLink RX5 78 yX5_reached, Cond.instanceMethod yX5_reached, Cond.selects RX5 yX5_reached yX5_reached]
def wsX5_ways_r2 : List Cond := [Cond.code yX5_reached cX5_reached 6 (some .int), Cond.fieldLink RX5 13 "AssemblyPlannerModel" "contacts" "[I", Cond.methodLink RX5 110 yX5_isSplit, Cond.instanceMethod yX5_isSplit, Cond.selects RX5 yX5_isSplit yX5_isSplit, Cond.code yX5_isSplit cX5_isSplit 5 (some .boolean), Cond.methodLink RX5 107 yX5_canPart, Cond.instanceMethod yX5_canPart, Cond.selects RX5 yX5_canPart yX5_canPart, Cond.code yX5_canPart cX5_canPart 7 (some .boolean), Cond.fieldLink RX5 16 "AssemblyPlannerModel" "hinders" "[I"]
def wsX5_ways : List Cond := .code yX5_ways cX5_ways 1 (some .int) :: ((wsX5_ways_r1 ++ wsX5_ways_r2) ++ wsX50)
def wsX5_leastDepth_r1 : List Cond := [Cond.fieldLink RX5 44 "AssemblyPlannerModel" "parts" "I", Cond.fieldLink RX5 28 "AssemblyPlannerModel" "depths" "[I", Cond.methodLink RX5 51 yX5_holds, Cond.instanceMethod yX5_holds, Cond.selects RX5 yX5_holds yX5_holds, Cond.initialized RX5, Cond.code yX5_holds cX5_holds 2 (some .boolean), Cond.fieldLink RX5 40 "AssemblyPlannerModel" "thrown" "I", Cond.methodLink RX5 113 yX5_comesApart, Cond.instanceMethod yX5_comesApart, Cond.selects RX5 yX5_comesApart yX5_comesApart, Cond.code yX5_comesApart cX5_comesApart 6 none, Cond.fieldLink RX5 25 "AssemblyPlannerModel" "ways" "[I", Cond.methodLink RX5 74 yX5_whole, Cond.instanceMethod yX5_whole, Cond.selects RX5 yX5_whole yX5_whole, Cond.code yX5_whole cX5_whole 1 (some .int), Cond.methodLink RX5 82 yX5_hangsTogether, Cond.instanceMethod yX5_hangsTogether, Cond.selects RX5 yX5_hangsTogether yX5_hangsTogether, Cond.code yX5_hangsTogether cX5_hangsTogether 2 (some .boolean), Cond.methodLink RX5 78 yX5_reached, Cond.instanceMethod yX5_reached, Cond.selects RX5 yX5_reached yX5_reached]
def wsX5_leastDepth_r2 : List Cond := [Cond.code yX5_reached cX5_reached 6 (some .int), Cond.fieldLink RX5 13 "AssemblyPlannerModel" "contacts" "[I", Cond.methodLink RX5 110 yX5_isSplit, Cond.instanceMethod yX5_isSplit, Cond.selects RX5 yX5_isSplit yX5_isSplit, Cond.code yX5_isSplit cX5_isSplit 5 (some .boolean), Cond.methodLink RX5 107 yX5_canPart, Cond.instanceMethod yX5_canPart, Cond.selects RX5 yX5_canPart yX5_canPart, Cond.code yX5_canPart cX5_canPart 7 (some .boolean), Cond.fieldLink RX5 16 "AssemblyPlannerModel" "hinders" "[I"]
def wsX5_leastDepth : List Cond := .code yX5_leastDepth cX5_leastDepth 1 (some .int) :: ((wsX5_leastDepth_r1 ++ wsX5_leastDepth_r2) ++ wsX50)
def wsX5_canAdd_r1 : List Cond := [Cond.methodLink RX5 98 yX5_isSound, Cond.instanceMethod yX5_isSound, Cond.selects RX5 yX5_isSound yX5_isSound, Cond.initialized RX5, Cond.code yX5_isSound cX5_isSound 2 (some .boolean), Cond.fieldLink RX5 71 "AssemblyPlannerModel" "isAsked" "Z", Cond.methodLink RX5 82 yX5_hangsTogether, Cond.instanceMethod yX5_hangsTogether, Cond.selects RX5 yX5_hangsTogether yX5_hangsTogether, Cond.code yX5_hangsTogether cX5_hangsTogether 2 (some .boolean), Cond.methodLink RX5 78 yX5_reached, Cond.instanceMethod yX5_reached, Cond.selects RX5 yX5_reached yX5_reached, Cond.code yX5_reached cX5_reached 6 (some .int), Cond.fieldLink RX5 44 "AssemblyPlannerModel" "parts" "I", Cond.fieldLink RX5 13 "AssemblyPlannerModel" "contacts" "[I", Cond.methodLink RX5 85 yX5_isHeld, Cond.instanceMethod yX5_isHeld, Cond.selects RX5 yX5_isHeld yX5_isHeld, Cond.code yX5_isHeld cX5_isHeld 6 (some .boolean), Cond.fieldLink RX5 68 "AssemblyPlannerModel" "base" "I", Cond.fieldLink RX5 16 "AssemblyPlannerModel" "hinders" "[I", Cond.methodLink RX5 95 yX5_freeOf, Cond.instanceMethod yX5_freeOf]
def wsX5_canAdd_r2 : List Cond := [Cond.selects RX5 yX5_freeOf yX5_freeOf, Cond.code yX5_freeOf cX5_freeOf 5 (some .int)]
def wsX5_canAdd : List Cond := .code yX5_canAdd cX5_canAdd 4 (some .boolean) :: ((wsX5_canAdd_r1 ++ wsX5_canAdd_r2) ++ wsX50)
def wsX5_orders_r1 : List Cond := [Cond.fieldLink RX5 44 "AssemblyPlannerModel" "parts" "I", Cond.fieldLink RX5 31 "AssemblyPlannerModel" "counts" "[I", Cond.methodLink RX5 51 yX5_holds, Cond.instanceMethod yX5_holds, Cond.selects RX5 yX5_holds yX5_holds, Cond.initialized RX5, Cond.code yX5_holds cX5_holds 2 (some .boolean), Cond.fieldLink RX5 40 "AssemblyPlannerModel" "thrown" "I", Cond.methodLink RX5 74 yX5_whole, Cond.instanceMethod yX5_whole, Cond.selects RX5 yX5_whole yX5_whole, Cond.code yX5_whole cX5_whole 1 (some .int), Cond.methodLink RX5 116 yX5_canAdd, Cond.instanceMethod yX5_canAdd, Cond.selects RX5 yX5_canAdd yX5_canAdd, Cond.code yX5_canAdd cX5_canAdd 4 (some .boolean), Cond.methodLink RX5 98 yX5_isSound, Cond.instanceMethod yX5_isSound, Cond.selects RX5 yX5_isSound yX5_isSound, Cond.code yX5_isSound cX5_isSound 2 (some .boolean), Cond.fieldLink RX5 71 "AssemblyPlannerModel" "isAsked" "Z", Cond.methodLink RX5 82 yX5_hangsTogether, Cond.instanceMethod yX5_hangsTogether, Cond.selects RX5 yX5_hangsTogether yX5_hangsTogether]
def wsX5_orders_r2 : List Cond := [Cond.code yX5_hangsTogether cX5_hangsTogether 2 (some .boolean), Cond.methodLink RX5 78 yX5_reached, Cond.instanceMethod yX5_reached, Cond.selects RX5 yX5_reached yX5_reached, Cond.code yX5_reached cX5_reached 6 (some .int), Cond.fieldLink RX5 13 "AssemblyPlannerModel" "contacts" "[I", Cond.methodLink RX5 85 yX5_isHeld, Cond.instanceMethod yX5_isHeld, Cond.selects RX5 yX5_isHeld yX5_isHeld, Cond.code yX5_isHeld cX5_isHeld 6 (some .boolean), Cond.fieldLink RX5 68 "AssemblyPlannerModel" "base" "I", Cond.fieldLink RX5 16 "AssemblyPlannerModel" "hinders" "[I", Cond.methodLink RX5 95 yX5_freeOf, Cond.instanceMethod yX5_freeOf, Cond.selects RX5 yX5_freeOf yX5_freeOf, Cond.code yX5_freeOf cX5_freeOf 5 (some .int)]
def wsX5_orders : List Cond := .code yX5_orders cX5_orders 4 (some .int) :: ((wsX5_orders_r1 ++ wsX5_orders_r2) ++ wsX50)
def wsX5_laysChanges_r1 : List Cond := [Cond.fieldLink RX5 44 "AssemblyPlannerModel" "parts" "I", Cond.fieldLink RX5 34 "AssemblyPlannerModel" "changes" "[I", Cond.fieldLink RX5 7 "AssemblyPlannerModel" "tools" "[I", Cond.methodLink RX5 74 yX5_whole, Cond.instanceMethod yX5_whole, Cond.selects RX5 yX5_whole yX5_whole, Cond.initialized RX5, Cond.code yX5_whole cX5_whole 1 (some .int), Cond.methodLink RX5 116 yX5_canAdd, Cond.instanceMethod yX5_canAdd, Cond.selects RX5 yX5_canAdd yX5_canAdd, Cond.code yX5_canAdd cX5_canAdd 4 (some .boolean), Cond.methodLink RX5 98 yX5_isSound, Cond.instanceMethod yX5_isSound, Cond.selects RX5 yX5_isSound yX5_isSound, Cond.code yX5_isSound cX5_isSound 2 (some .boolean), Cond.fieldLink RX5 71 "AssemblyPlannerModel" "isAsked" "Z", Cond.methodLink RX5 82 yX5_hangsTogether, Cond.instanceMethod yX5_hangsTogether, Cond.selects RX5 yX5_hangsTogether yX5_hangsTogether, Cond.code yX5_hangsTogether cX5_hangsTogether 2 (some .boolean), Cond.methodLink RX5 78 yX5_reached, Cond.instanceMethod yX5_reached, Cond.selects RX5 yX5_reached yX5_reached]
def wsX5_laysChanges_r2 : List Cond := [Cond.code yX5_reached cX5_reached 6 (some .int), Cond.fieldLink RX5 13 "AssemblyPlannerModel" "contacts" "[I", Cond.methodLink RX5 85 yX5_isHeld, Cond.instanceMethod yX5_isHeld, Cond.selects RX5 yX5_isHeld yX5_isHeld, Cond.code yX5_isHeld cX5_isHeld 6 (some .boolean), Cond.fieldLink RX5 68 "AssemblyPlannerModel" "base" "I", Cond.fieldLink RX5 16 "AssemblyPlannerModel" "hinders" "[I", Cond.methodLink RX5 95 yX5_freeOf, Cond.instanceMethod yX5_freeOf, Cond.selects RX5 yX5_freeOf yX5_freeOf, Cond.code yX5_freeOf cX5_freeOf 5 (some .int)]
def wsX5_laysChanges : List Cond := .code yX5_laysChanges cX5_laysChanges 6 none :: ((wsX5_laysChanges_r1 ++ wsX5_laysChanges_r2) ++ wsX50)
def wsX5_best_r1 : List Cond := [Cond.fieldLink RX5 44 "AssemblyPlannerModel" "parts" "I", Cond.fieldLink RX5 34 "AssemblyPlannerModel" "changes" "[I", Cond.fieldLink RX5 7 "AssemblyPlannerModel" "tools" "[I", Cond.fieldLink RX5 37 "AssemblyPlannerModel" "order" "[I", Cond.methodLink RX5 119 yX5_laysChanges, Cond.instanceMethod yX5_laysChanges, Cond.selects RX5 yX5_laysChanges yX5_laysChanges, Cond.initialized RX5, Cond.code yX5_laysChanges cX5_laysChanges 6 none, Cond.methodLink RX5 74 yX5_whole, Cond.instanceMethod yX5_whole, Cond.selects RX5 yX5_whole yX5_whole, Cond.code yX5_whole cX5_whole 1 (some .int), Cond.methodLink RX5 116 yX5_canAdd, Cond.instanceMethod yX5_canAdd, Cond.selects RX5 yX5_canAdd yX5_canAdd, Cond.code yX5_canAdd cX5_canAdd 4 (some .boolean), Cond.methodLink RX5 98 yX5_isSound, Cond.instanceMethod yX5_isSound, Cond.selects RX5 yX5_isSound yX5_isSound, Cond.code yX5_isSound cX5_isSound 2 (some .boolean), Cond.fieldLink RX5 71 "AssemblyPlannerModel" "isAsked" "Z", Cond.methodLink RX5 82 yX5_hangsTogether, Cond.instanceMethod yX5_hangsTogether]
def wsX5_best_r2 : List Cond := [Cond.selects RX5 yX5_hangsTogether yX5_hangsTogether, Cond.code yX5_hangsTogether cX5_hangsTogether 2 (some .boolean), Cond.methodLink RX5 78 yX5_reached, Cond.instanceMethod yX5_reached, Cond.selects RX5 yX5_reached yX5_reached, Cond.code yX5_reached cX5_reached 6 (some .int), Cond.fieldLink RX5 13 "AssemblyPlannerModel" "contacts" "[I", Cond.methodLink RX5 85 yX5_isHeld, Cond.instanceMethod yX5_isHeld, Cond.selects RX5 yX5_isHeld yX5_isHeld, Cond.code yX5_isHeld cX5_isHeld 6 (some .boolean), Cond.fieldLink RX5 68 "AssemblyPlannerModel" "base" "I", Cond.fieldLink RX5 16 "AssemblyPlannerModel" "hinders" "[I", Cond.methodLink RX5 95 yX5_freeOf, Cond.instanceMethod yX5_freeOf, Cond.selects RX5 yX5_freeOf yX5_freeOf, Cond.code yX5_freeOf cX5_freeOf 5 (some .int)]
def wsX5_best : List Cond := .code yX5_best cX5_best 9 (some .int) :: ((wsX5_best_r1 ++ wsX5_best_r2) ++ wsX50)
def wsX5_fewestChanges_r1 : List Cond := [Cond.fieldLink RX5 44 "AssemblyPlannerModel" "parts" "I", Cond.methodLink RX5 51 yX5_holds, Cond.instanceMethod yX5_holds, Cond.selects RX5 yX5_holds yX5_holds, Cond.initialized RX5, Cond.code yX5_holds cX5_holds 2 (some .boolean), Cond.fieldLink RX5 40 "AssemblyPlannerModel" "thrown" "I", Cond.methodLink RX5 122 yX5_best, Cond.instanceMethod yX5_best, Cond.selects RX5 yX5_best yX5_best, Cond.code yX5_best cX5_best 9 (some .int), Cond.fieldLink RX5 34 "AssemblyPlannerModel" "changes" "[I", Cond.fieldLink RX5 7 "AssemblyPlannerModel" "tools" "[I", Cond.fieldLink RX5 37 "AssemblyPlannerModel" "order" "[I", Cond.methodLink RX5 119 yX5_laysChanges, Cond.instanceMethod yX5_laysChanges, Cond.selects RX5 yX5_laysChanges yX5_laysChanges, Cond.code yX5_laysChanges cX5_laysChanges 6 none, Cond.methodLink RX5 74 yX5_whole, Cond.instanceMethod yX5_whole, Cond.selects RX5 yX5_whole yX5_whole, Cond.code yX5_whole cX5_whole 1 (some .int), Cond.methodLink RX5 116 yX5_canAdd, Cond.instanceMethod yX5_canAdd]
def wsX5_fewestChanges_r2 : List Cond := [Cond.selects RX5 yX5_canAdd yX5_canAdd, Cond.code yX5_canAdd cX5_canAdd 4 (some .boolean), Cond.methodLink RX5 98 yX5_isSound, Cond.instanceMethod yX5_isSound, Cond.selects RX5 yX5_isSound yX5_isSound, Cond.code yX5_isSound cX5_isSound 2 (some .boolean), Cond.fieldLink RX5 71 "AssemblyPlannerModel" "isAsked" "Z", Cond.methodLink RX5 82 yX5_hangsTogether, Cond.instanceMethod yX5_hangsTogether, Cond.selects RX5 yX5_hangsTogether yX5_hangsTogether, Cond.code yX5_hangsTogether cX5_hangsTogether 2 (some .boolean), Cond.methodLink RX5 78 yX5_reached, Cond.instanceMethod yX5_reached, Cond.selects RX5 yX5_reached yX5_reached, Cond.code yX5_reached cX5_reached 6 (some .int), Cond.fieldLink RX5 13 "AssemblyPlannerModel" "contacts" "[I", Cond.methodLink RX5 85 yX5_isHeld, Cond.instanceMethod yX5_isHeld, Cond.selects RX5 yX5_isHeld yX5_isHeld, Cond.code yX5_isHeld cX5_isHeld 6 (some .boolean), Cond.fieldLink RX5 68 "AssemblyPlannerModel" "base" "I", Cond.fieldLink RX5 16 "AssemblyPlannerModel" "hinders" "[I", Cond.methodLink RX5 95 yX5_freeOf, Cond.instanceMethod yX5_freeOf]
def wsX5_fewestChanges_r3 : List Cond := [Cond.selects RX5 yX5_freeOf yX5_freeOf, Cond.code yX5_freeOf cX5_freeOf 5 (some .int)]
def wsX5_fewestChanges : List Cond := .code yX5_fewestChanges cX5_fewestChanges 1 (some .int) :: ((wsX5_fewestChanges_r1 ++ (wsX5_fewestChanges_r2 ++ wsX5_fewestChanges_r3)) ++ wsX50)
def wsX5_fewestByListing_r1 : List Cond := [Cond.fieldLink RX5 44 "AssemblyPlannerModel" "parts" "I", Cond.methodLink RX5 51 yX5_holds, Cond.instanceMethod yX5_holds, Cond.selects RX5 yX5_holds yX5_holds, Cond.initialized RX5, Cond.code yX5_holds cX5_holds 2 (some .boolean), Cond.fieldLink RX5 40 "AssemblyPlannerModel" "thrown" "I", Cond.methodLink RX5 122 yX5_best, Cond.instanceMethod yX5_best, Cond.selects RX5 yX5_best yX5_best, Cond.code yX5_best cX5_best 9 (some .int), Cond.fieldLink RX5 34 "AssemblyPlannerModel" "changes" "[I", Cond.fieldLink RX5 7 "AssemblyPlannerModel" "tools" "[I", Cond.fieldLink RX5 37 "AssemblyPlannerModel" "order" "[I", Cond.methodLink RX5 119 yX5_laysChanges, Cond.instanceMethod yX5_laysChanges, Cond.selects RX5 yX5_laysChanges yX5_laysChanges, Cond.code yX5_laysChanges cX5_laysChanges 6 none, Cond.methodLink RX5 74 yX5_whole, Cond.instanceMethod yX5_whole, Cond.selects RX5 yX5_whole yX5_whole, Cond.code yX5_whole cX5_whole 1 (some .int), Cond.methodLink RX5 116 yX5_canAdd, Cond.instanceMethod yX5_canAdd]
def wsX5_fewestByListing_r2 : List Cond := [Cond.selects RX5 yX5_canAdd yX5_canAdd, Cond.code yX5_canAdd cX5_canAdd 4 (some .boolean), Cond.methodLink RX5 98 yX5_isSound, Cond.instanceMethod yX5_isSound, Cond.selects RX5 yX5_isSound yX5_isSound, Cond.code yX5_isSound cX5_isSound 2 (some .boolean), Cond.fieldLink RX5 71 "AssemblyPlannerModel" "isAsked" "Z", Cond.methodLink RX5 82 yX5_hangsTogether, Cond.instanceMethod yX5_hangsTogether, Cond.selects RX5 yX5_hangsTogether yX5_hangsTogether, Cond.code yX5_hangsTogether cX5_hangsTogether 2 (some .boolean), Cond.methodLink RX5 78 yX5_reached, Cond.instanceMethod yX5_reached, Cond.selects RX5 yX5_reached yX5_reached, Cond.code yX5_reached cX5_reached 6 (some .int), Cond.fieldLink RX5 13 "AssemblyPlannerModel" "contacts" "[I", Cond.methodLink RX5 85 yX5_isHeld, Cond.instanceMethod yX5_isHeld, Cond.selects RX5 yX5_isHeld yX5_isHeld, Cond.code yX5_isHeld cX5_isHeld 6 (some .boolean), Cond.fieldLink RX5 68 "AssemblyPlannerModel" "base" "I", Cond.fieldLink RX5 16 "AssemblyPlannerModel" "hinders" "[I", Cond.methodLink RX5 95 yX5_freeOf, Cond.instanceMethod yX5_freeOf]
def wsX5_fewestByListing_r3 : List Cond := [Cond.selects RX5 yX5_freeOf yX5_freeOf, Cond.code yX5_freeOf cX5_freeOf 5 (some .int)]
def wsX5_fewestByListing : List Cond := .code yX5_fewestByListing cX5_fewestByListing 1 (some .int) :: ((wsX5_fewestByListing_r1 ++ (wsX5_fewestByListing_r2 ++ wsX5_fewestByListing_r3)) ++ wsX50)
def wsX5_orderAt_r1 : List Cond := [Cond.fieldLink RX5 44 "AssemblyPlannerModel" "parts" "I", Cond.fieldLink RX5 37 "AssemblyPlannerModel" "order" "[I", Cond.methodLink RX5 122 yX5_best, Cond.instanceMethod yX5_best, Cond.selects RX5 yX5_best yX5_best, Cond.initialized RX5, Cond.code yX5_best cX5_best 9 (some .int), Cond.fieldLink RX5 34 "AssemblyPlannerModel" "changes" "[I", Cond.fieldLink RX5 7 "AssemblyPlannerModel" "tools" "[I", Cond.methodLink RX5 119 yX5_laysChanges, Cond.instanceMethod yX5_laysChanges, Cond.selects RX5 yX5_laysChanges yX5_laysChanges, Cond.code yX5_laysChanges cX5_laysChanges 6 none, Cond.methodLink RX5 74 yX5_whole, Cond.instanceMethod yX5_whole, Cond.selects RX5 yX5_whole yX5_whole, Cond.code yX5_whole cX5_whole 1 (some .int), Cond.methodLink RX5 116 yX5_canAdd, Cond.instanceMethod yX5_canAdd, Cond.selects RX5 yX5_canAdd yX5_canAdd, Cond.code yX5_canAdd cX5_canAdd 4 (some .boolean), Cond.methodLink RX5 98 yX5_isSound, Cond.instanceMethod yX5_isSound, Cond.selects RX5 yX5_isSound yX5_isSound]
def wsX5_orderAt_r2 : List Cond := [Cond.code yX5_isSound cX5_isSound 2 (some .boolean), Cond.fieldLink RX5 71 "AssemblyPlannerModel" "isAsked" "Z", Cond.methodLink RX5 82 yX5_hangsTogether, Cond.instanceMethod yX5_hangsTogether, Cond.selects RX5 yX5_hangsTogether yX5_hangsTogether, Cond.code yX5_hangsTogether cX5_hangsTogether 2 (some .boolean), Cond.methodLink RX5 78 yX5_reached, Cond.instanceMethod yX5_reached, Cond.selects RX5 yX5_reached yX5_reached, Cond.code yX5_reached cX5_reached 6 (some .int), Cond.fieldLink RX5 13 "AssemblyPlannerModel" "contacts" "[I", Cond.methodLink RX5 85 yX5_isHeld, Cond.instanceMethod yX5_isHeld, Cond.selects RX5 yX5_isHeld yX5_isHeld, Cond.code yX5_isHeld cX5_isHeld 6 (some .boolean), Cond.fieldLink RX5 68 "AssemblyPlannerModel" "base" "I", Cond.fieldLink RX5 16 "AssemblyPlannerModel" "hinders" "[I", Cond.methodLink RX5 95 yX5_freeOf, Cond.instanceMethod yX5_freeOf, Cond.selects RX5 yX5_freeOf yX5_freeOf, Cond.code yX5_freeOf cX5_freeOf 5 (some .int), Cond.methodLink RX5 51 yX5_holds, Cond.instanceMethod yX5_holds, Cond.selects RX5 yX5_holds yX5_holds]
def wsX5_orderAt_r3 : List Cond := [Cond.code yX5_holds cX5_holds 2 (some .boolean), Cond.fieldLink RX5 40 "AssemblyPlannerModel" "thrown" "I"]
def wsX5_orderAt : List Cond := .code yX5_orderAt cX5_orderAt 3 (some .int) :: ((wsX5_orderAt_r1 ++ (wsX5_orderAt_r2 ++ wsX5_orderAt_r3)) ++ wsX50)
def wsX5_setJams : List Cond := .code yX5_setJams cX5_setJams 4 (some .int) :: ([.fieldLink RX5 19 "AssemblyPlannerModel" "jams" "[I", .methodLink RX5 58 yX5_isPart, .instanceMethod yX5_isPart, .selects RX5 yX5_isPart yX5_isPart, .initialized RX5, .code yX5_isPart cX5_isPart 2 (some .boolean), .fieldLink RX5 44 "AssemblyPlannerModel" "parts" "I", .methodLink RX5 51 yX5_holds, .instanceMethod yX5_holds, .selects RX5 yX5_holds yX5_holds, .code yX5_holds cX5_holds 2 (some .boolean), .fieldLink RX5 40 "AssemblyPlannerModel" "thrown" "I"] ++ wsX50)
def wsX5_begin_r1 : List Cond := [Cond.fieldLink RX5 44 "AssemblyPlannerModel" "parts" "I", Cond.fieldLink RX5 54 "AssemblyPlannerModel" "isBegun" "Z", Cond.fieldLink RX5 125 "AssemblyPlannerModel" "putIn" "I", Cond.fieldLink RX5 128 "AssemblyPlannerModel" "built" "I", Cond.fieldLink RX5 131 "AssemblyPlannerModel" "clock" "I", Cond.fieldLink RX5 134 "AssemblyPlannerModel" "mounted" "I", Cond.fieldLink RX5 22 "AssemblyPlannerModel" "cleared" "[I", Cond.methodLink RX5 122 yX5_best, Cond.instanceMethod yX5_best, Cond.selects RX5 yX5_best yX5_best, Cond.initialized RX5, Cond.code yX5_best cX5_best 9 (some .int), Cond.fieldLink RX5 34 "AssemblyPlannerModel" "changes" "[I", Cond.fieldLink RX5 7 "AssemblyPlannerModel" "tools" "[I", Cond.fieldLink RX5 37 "AssemblyPlannerModel" "order" "[I", Cond.methodLink RX5 119 yX5_laysChanges, Cond.instanceMethod yX5_laysChanges, Cond.selects RX5 yX5_laysChanges yX5_laysChanges, Cond.code yX5_laysChanges cX5_laysChanges 6 none, Cond.methodLink RX5 74 yX5_whole, Cond.instanceMethod yX5_whole, Cond.selects RX5 yX5_whole yX5_whole, Cond.code yX5_whole cX5_whole 1 (some .int), Cond.methodLink RX5 116 yX5_canAdd]
def wsX5_begin_r2 : List Cond := [Cond.instanceMethod yX5_canAdd, Cond.selects RX5 yX5_canAdd yX5_canAdd, Cond.code yX5_canAdd cX5_canAdd 4 (some .boolean), Cond.methodLink RX5 98 yX5_isSound, Cond.instanceMethod yX5_isSound, Cond.selects RX5 yX5_isSound yX5_isSound, Cond.code yX5_isSound cX5_isSound 2 (some .boolean), Cond.fieldLink RX5 71 "AssemblyPlannerModel" "isAsked" "Z", Cond.methodLink RX5 82 yX5_hangsTogether, Cond.instanceMethod yX5_hangsTogether, Cond.selects RX5 yX5_hangsTogether yX5_hangsTogether, Cond.code yX5_hangsTogether cX5_hangsTogether 2 (some .boolean), Cond.methodLink RX5 78 yX5_reached, Cond.instanceMethod yX5_reached, Cond.selects RX5 yX5_reached yX5_reached, Cond.code yX5_reached cX5_reached 6 (some .int), Cond.fieldLink RX5 13 "AssemblyPlannerModel" "contacts" "[I", Cond.methodLink RX5 85 yX5_isHeld, Cond.instanceMethod yX5_isHeld, Cond.selects RX5 yX5_isHeld yX5_isHeld, Cond.code yX5_isHeld cX5_isHeld 6 (some .boolean), Cond.fieldLink RX5 68 "AssemblyPlannerModel" "base" "I", Cond.fieldLink RX5 16 "AssemblyPlannerModel" "hinders" "[I", Cond.methodLink RX5 95 yX5_freeOf]
def wsX5_begin_r3 : List Cond := [Cond.instanceMethod yX5_freeOf, Cond.selects RX5 yX5_freeOf yX5_freeOf, Cond.code yX5_freeOf cX5_freeOf 5 (some .int), Cond.methodLink RX5 51 yX5_holds, Cond.instanceMethod yX5_holds, Cond.selects RX5 yX5_holds yX5_holds, Cond.code yX5_holds cX5_holds 2 (some .boolean), Cond.fieldLink RX5 40 "AssemblyPlannerModel" "thrown" "I"]
def wsX5_begin : List Cond := .code yX5_begin cX5_begin 2 (some .int) :: ((wsX5_begin_r1 ++ (wsX5_begin_r2 ++ wsX5_begin_r3)) ++ wsX50)
def wsX5_isPassed : List Cond := .code yX5_isPassed cX5_isPassed 2 (some .boolean) :: ([.fieldLink RX5 22 "AssemblyPlannerModel" "cleared" "[I"] ++ wsX50)
def wsX5_step_r1 : List Cond := [Cond.fieldLink RX5 54 "AssemblyPlannerModel" "isBegun" "Z", Cond.fieldLink RX5 125 "AssemblyPlannerModel" "putIn" "I", Cond.fieldLink RX5 44 "AssemblyPlannerModel" "parts" "I", Cond.fieldLink RX5 37 "AssemblyPlannerModel" "order" "[I", Cond.fieldLink RX5 134 "AssemblyPlannerModel" "mounted" "I", Cond.fieldLink RX5 7 "AssemblyPlannerModel" "tools" "[I", Cond.fieldLink RX5 131 "AssemblyPlannerModel" "clock" "I", Cond.fieldLink RX5 19 "AssemblyPlannerModel" "jams" "[I", Cond.fieldLink RX5 22 "AssemblyPlannerModel" "cleared" "[I", Cond.fieldLink RX5 128 "AssemblyPlannerModel" "built" "I", Cond.fieldLink RX5 16 "AssemblyPlannerModel" "hinders" "[I", Cond.methodLink RX5 51 yX5_holds, Cond.instanceMethod yX5_holds, Cond.selects RX5 yX5_holds yX5_holds, Cond.initialized RX5, Cond.code yX5_holds cX5_holds 2 (some .boolean), Cond.fieldLink RX5 40 "AssemblyPlannerModel" "thrown" "I", Cond.methodLink RX5 122 yX5_best, Cond.instanceMethod yX5_best, Cond.selects RX5 yX5_best yX5_best, Cond.code yX5_best cX5_best 9 (some .int), Cond.fieldLink RX5 34 "AssemblyPlannerModel" "changes" "[I", Cond.methodLink RX5 119 yX5_laysChanges, Cond.instanceMethod yX5_laysChanges]
def wsX5_step_r2 : List Cond := [Cond.selects RX5 yX5_laysChanges yX5_laysChanges, Cond.code yX5_laysChanges cX5_laysChanges 6 none, Cond.methodLink RX5 74 yX5_whole, Cond.instanceMethod yX5_whole, Cond.selects RX5 yX5_whole yX5_whole, Cond.code yX5_whole cX5_whole 1 (some .int), Cond.methodLink RX5 116 yX5_canAdd, Cond.instanceMethod yX5_canAdd, Cond.selects RX5 yX5_canAdd yX5_canAdd, Cond.code yX5_canAdd cX5_canAdd 4 (some .boolean), Cond.methodLink RX5 98 yX5_isSound, Cond.instanceMethod yX5_isSound, Cond.selects RX5 yX5_isSound yX5_isSound, Cond.code yX5_isSound cX5_isSound 2 (some .boolean), Cond.fieldLink RX5 71 "AssemblyPlannerModel" "isAsked" "Z", Cond.methodLink RX5 82 yX5_hangsTogether, Cond.instanceMethod yX5_hangsTogether, Cond.selects RX5 yX5_hangsTogether yX5_hangsTogether, Cond.code yX5_hangsTogether cX5_hangsTogether 2 (some .boolean), Cond.methodLink RX5 78 yX5_reached, Cond.instanceMethod yX5_reached, Cond.selects RX5 yX5_reached yX5_reached, Cond.code yX5_reached cX5_reached 6 (some .int), Cond.fieldLink RX5 13 "AssemblyPlannerModel" "contacts" "[I"]
def wsX5_step_r3 : List Cond := [Cond.methodLink RX5 85 yX5_isHeld, Cond.instanceMethod yX5_isHeld, Cond.selects RX5 yX5_isHeld yX5_isHeld, Cond.code yX5_isHeld cX5_isHeld 6 (some .boolean), Cond.fieldLink RX5 68 "AssemblyPlannerModel" "base" "I", Cond.methodLink RX5 95 yX5_freeOf, Cond.instanceMethod yX5_freeOf, Cond.selects RX5 yX5_freeOf yX5_freeOf, Cond.code yX5_freeOf cX5_freeOf 5 (some .int), Cond.methodLink RX5 137 yX5_isPassed, Cond.instanceMethod yX5_isPassed, Cond.selects RX5 yX5_isPassed yX5_isPassed, Cond.code yX5_isPassed cX5_isPassed 2 (some .boolean)]
def wsX5_step : List Cond := .code yX5_step cX5_step 3 (some .int) :: ((wsX5_step_r1 ++ (wsX5_step_r2 ++ wsX5_step_r3)) ++ wsX50)
def wsX5_stepBack_r1 : List Cond := [Cond.fieldLink RX5 54 "AssemblyPlannerModel" "isBegun" "Z", Cond.fieldLink RX5 125 "AssemblyPlannerModel" "putIn" "I", Cond.fieldLink RX5 128 "AssemblyPlannerModel" "built" "I", Cond.fieldLink RX5 37 "AssemblyPlannerModel" "order" "[I", Cond.fieldLink RX5 131 "AssemblyPlannerModel" "clock" "I", Cond.methodLink RX5 51 yX5_holds, Cond.instanceMethod yX5_holds, Cond.selects RX5 yX5_holds yX5_holds, Cond.initialized RX5, Cond.code yX5_holds cX5_holds 2 (some .boolean), Cond.fieldLink RX5 40 "AssemblyPlannerModel" "thrown" "I", Cond.methodLink RX5 122 yX5_best, Cond.instanceMethod yX5_best, Cond.selects RX5 yX5_best yX5_best, Cond.code yX5_best cX5_best 9 (some .int), Cond.fieldLink RX5 44 "AssemblyPlannerModel" "parts" "I", Cond.fieldLink RX5 34 "AssemblyPlannerModel" "changes" "[I", Cond.fieldLink RX5 7 "AssemblyPlannerModel" "tools" "[I", Cond.methodLink RX5 119 yX5_laysChanges, Cond.instanceMethod yX5_laysChanges, Cond.selects RX5 yX5_laysChanges yX5_laysChanges, Cond.code yX5_laysChanges cX5_laysChanges 6 none, Cond.methodLink RX5 74 yX5_whole, Cond.instanceMethod yX5_whole]
def wsX5_stepBack_r2 : List Cond := [Cond.selects RX5 yX5_whole yX5_whole, Cond.code yX5_whole cX5_whole 1 (some .int), Cond.methodLink RX5 116 yX5_canAdd, Cond.instanceMethod yX5_canAdd, Cond.selects RX5 yX5_canAdd yX5_canAdd, Cond.code yX5_canAdd cX5_canAdd 4 (some .boolean), Cond.methodLink RX5 98 yX5_isSound, Cond.instanceMethod yX5_isSound, Cond.selects RX5 yX5_isSound yX5_isSound, Cond.code yX5_isSound cX5_isSound 2 (some .boolean), Cond.fieldLink RX5 71 "AssemblyPlannerModel" "isAsked" "Z", Cond.methodLink RX5 82 yX5_hangsTogether, Cond.instanceMethod yX5_hangsTogether, Cond.selects RX5 yX5_hangsTogether yX5_hangsTogether, Cond.code yX5_hangsTogether cX5_hangsTogether 2 (some .boolean), Cond.methodLink RX5 78 yX5_reached, Cond.instanceMethod yX5_reached, Cond.selects RX5 yX5_reached yX5_reached, Cond.code yX5_reached cX5_reached 6 (some .int), Cond.fieldLink RX5 13 "AssemblyPlannerModel" "contacts" "[I", Cond.methodLink RX5 85 yX5_isHeld, Cond.instanceMethod yX5_isHeld, Cond.selects RX5 yX5_isHeld yX5_isHeld, Cond.code yX5_isHeld cX5_isHeld 6 (some .boolean)]
def wsX5_stepBack_r3 : List Cond := [Cond.fieldLink RX5 68 "AssemblyPlannerModel" "base" "I", Cond.fieldLink RX5 16 "AssemblyPlannerModel" "hinders" "[I", Cond.methodLink RX5 95 yX5_freeOf, Cond.instanceMethod yX5_freeOf, Cond.selects RX5 yX5_freeOf yX5_freeOf, Cond.code yX5_freeOf cX5_freeOf 5 (some .int)]
def wsX5_stepBack : List Cond := .code yX5_stepBack cX5_stepBack 2 (some .int) :: ((wsX5_stepBack_r1 ++ (wsX5_stepBack_r2 ++ wsX5_stepBack_r3)) ++ wsX50)
def wsX5_built : List Cond := .code yX5_built cX5_built 1 (some .int) :: ([.fieldLink RX5 40 "AssemblyPlannerModel" "thrown" "I", .fieldLink RX5 54 "AssemblyPlannerModel" "isBegun" "Z", .fieldLink RX5 128 "AssemblyPlannerModel" "built" "I"] ++ wsX50)
def wsX5_clock : List Cond := .code yX5_clock cX5_clock 1 (some .int) :: ([.fieldLink RX5 40 "AssemblyPlannerModel" "thrown" "I", .fieldLink RX5 54 "AssemblyPlannerModel" "isBegun" "Z", .fieldLink RX5 131 "AssemblyPlannerModel" "clock" "I"] ++ wsX50)
def wsX5_mounted : List Cond := .code yX5_mounted cX5_mounted 1 (some .int) :: ([.fieldLink RX5 40 "AssemblyPlannerModel" "thrown" "I", .fieldLink RX5 54 "AssemblyPlannerModel" "isBegun" "Z", .fieldLink RX5 134 "AssemblyPlannerModel" "mounted" "I"] ++ wsX50)
def wsX5_isBypassed : List Cond := .code yX5_isBypassed cX5_isBypassed 2 (some .boolean) :: ([.fieldLink RX5 54 "AssemblyPlannerModel" "isBegun" "Z", .methodLink RX5 58 yX5_isPart, .instanceMethod yX5_isPart, .selects RX5 yX5_isPart yX5_isPart, .initialized RX5, .code yX5_isPart cX5_isPart 2 (some .boolean), .fieldLink RX5 44 "AssemblyPlannerModel" "parts" "I", .methodLink RX5 51 yX5_holds, .instanceMethod yX5_holds, .selects RX5 yX5_holds yX5_holds, .code yX5_holds cX5_holds 2 (some .boolean), .fieldLink RX5 40 "AssemblyPlannerModel" "thrown" "I", .methodLink RX5 137 yX5_isPassed, .instanceMethod yX5_isPassed, .selects RX5 yX5_isPassed yX5_isPassed, .code yX5_isPassed cX5_isPassed 2 (some .boolean), .fieldLink RX5 22 "AssemblyPlannerModel" "cleared" "[I"] ++ wsX50)
def wsJ9_max_7cf53 : List Cond := .code yJ9_max_7cf53 cJ9_max_7cf53 2 (some .int) :: ([])
def wsJ9_min_7cf53 : List Cond := .code yJ9_min_7cf53 cJ9_min_7cf53 2 (some .int) :: ([])
def wsL_addPart_r1 : List Cond := [Cond.classLink RL 13 "java/lang/IllegalArgumentException", Cond.classLink RL 15 "java/lang/IllegalStateException", Cond.methodLink RL 7 yX4_addPart, Cond.instanceMethod yX4_addPart, Cond.selects RX4 yX4_addPart yX4_addPart, Cond.initialized RX4, Cond.code yX4_addPart cX4_addPart 2 (some .int), Cond.classLink RX4 47 "java/lang/IllegalStateException", Cond.initialized "java/lang/IllegalStateException", Cond.fieldLink RX4 12 "AssemblyPlanner" "product" "LAssemblyPlanner$Product;", Cond.methodLink RX4 39 yX4_needTool, Cond.instanceMethod yX4_needTool, Cond.selects RX4 yX4_needTool yX4_needTool, Cond.code yX4_needTool cX4_needTool 2 none, Cond.classLink RX4 153 "java/lang/IllegalArgumentException", Cond.initialized "java/lang/IllegalArgumentException", Cond.methodLink RX4 43 yX3_count, Cond.instanceMethod yX3_count, Cond.selects RX3 yX3_count yX3_count, Cond.initialized RX3, Cond.code yX3_count cX3_count 1 (some .int), Cond.fieldLink RX3 21 "AssemblyPlanner$Product" "count" "I", Cond.methodLink RX4 54 yX4_productIsTold, Cond.instanceMethod yX4_productIsTold]
def wsL_addPart_r2 : List Cond := [Cond.selects RX4 yX4_productIsTold yX4_productIsTold, Cond.code yX4_productIsTold cX4_productIsTold 1 none, Cond.fieldLink RX4 21 "AssemblyPlanner" "parting" "LAssemblyPlanner$Parting;", Cond.fieldLink RX4 28 "AssemblyPlanner" "ordering" "LAssemblyPlanner$Ordering;", Cond.fieldLink RX4 35 "AssemblyPlanner" "cell" "LAssemblyPlanner$Cell;", Cond.methodLink RX4 194 yX2_forget, Cond.instanceMethod yX2_forget, Cond.selects RX2 yX2_forget yX2_forget, Cond.initialized RX2, Cond.code yX2_forget cX2_forget 1 none, Cond.fieldLink RX2 29 "AssemblyPlanner$Parting" "known" "Z", Cond.methodLink RX4 197 yX1_forget, Cond.instanceMethod yX1_forget, Cond.selects RX1 yX1_forget yX1_forget, Cond.initialized RX1, Cond.code yX1_forget cX1_forget 1 none, Cond.fieldLink RX1 32 "AssemblyPlanner$Ordering" "known" "Z", Cond.methodLink RX4 198 yX0_halt, Cond.instanceMethod yX0_halt, Cond.selects RX0 yX0_halt yX0_halt, Cond.initialized RX0, Cond.code yX0_halt cX0_halt 2 none, Cond.fieldLink RX0 29 "AssemblyPlanner$Cell" "begun" "Z", Cond.fieldLink RX0 33 "AssemblyPlanner$Cell" "placesIn" "I"]
def wsL_addPart_r3 : List Cond := [Cond.fieldLink RX0 36 "AssemblyPlanner$Cell" "in" "I", Cond.fieldLink RX0 39 "AssemblyPlanner$Cell" "time" "I", Cond.fieldLink RX0 18 "AssemblyPlanner$Cell" "tool" "I", Cond.fieldLink RX0 15 "AssemblyPlanner$Cell" "jamsSinceStart" "[I", Cond.methodLink RX4 57 yX3_add, Cond.instanceMethod yX3_add, Cond.selects RX3 yX3_add yX3_add, Cond.code yX3_add cX3_add 3 (some .int), Cond.fieldLink RX3 9 "AssemblyPlanner$Product" "tools" "[I"]
def wsL_addPart : List Cond := .codeWith yL_addPart cL_addPart 4 (some .int) [(0, 9, 12, 13), (0, 9, 15, 15)] :: ((wsL_addPart_r1 ++ (wsL_addPart_r2 ++ wsL_addPart_r3)) ++ wsX40 ++ wsX30 ++ wsX20 ++ wsX10 ++ wsX00 ++ (vx_atS RX4 51 "java/lang/IllegalStateException" ["java/lang/RuntimeException", "java/lang/Exception"]).filter goodWord ++ (vx_atS RX4 157 "java/lang/IllegalArgumentException" ["java/lang/RuntimeException", "java/lang/Exception"]).filter goodWord)
def wsL_setTool_r1 : List Cond := [Cond.classLink RL 21 "java/lang/IndexOutOfBoundsException", Cond.classLink RL 13 "java/lang/IllegalArgumentException", Cond.methodLink RL 17 yX4_setTool, Cond.instanceMethod yX4_setTool, Cond.selects RX4 yX4_setTool yX4_setTool, Cond.initialized RX4, Cond.code yX4_setTool cX4_setTool 3 (some .int), Cond.fieldLink RX4 12 "AssemblyPlanner" "product" "LAssemblyPlanner$Product;", Cond.methodLink RX4 61 yX4_needPart, Cond.instanceMethod yX4_needPart, Cond.selects RX4 yX4_needPart yX4_needPart, Cond.code yX4_needPart cX4_needPart 2 none, Cond.classLink RX4 148 "java/lang/IndexOutOfBoundsException", Cond.initialized "java/lang/IndexOutOfBoundsException", Cond.methodLink RX4 43 yX3_count, Cond.instanceMethod yX3_count, Cond.selects RX3 yX3_count yX3_count, Cond.initialized RX3, Cond.code yX3_count cX3_count 1 (some .int), Cond.fieldLink RX3 21 "AssemblyPlanner$Product" "count" "I", Cond.methodLink RX4 39 yX4_needTool, Cond.instanceMethod yX4_needTool, Cond.selects RX4 yX4_needTool yX4_needTool, Cond.code yX4_needTool cX4_needTool 2 none]
def wsL_setTool_r2 : List Cond := [Cond.classLink RX4 153 "java/lang/IllegalArgumentException", Cond.initialized "java/lang/IllegalArgumentException", Cond.methodLink RX4 54 yX4_productIsTold, Cond.instanceMethod yX4_productIsTold, Cond.selects RX4 yX4_productIsTold yX4_productIsTold, Cond.code yX4_productIsTold cX4_productIsTold 1 none, Cond.fieldLink RX4 21 "AssemblyPlanner" "parting" "LAssemblyPlanner$Parting;", Cond.fieldLink RX4 28 "AssemblyPlanner" "ordering" "LAssemblyPlanner$Ordering;", Cond.fieldLink RX4 35 "AssemblyPlanner" "cell" "LAssemblyPlanner$Cell;", Cond.methodLink RX4 194 yX2_forget, Cond.instanceMethod yX2_forget, Cond.selects RX2 yX2_forget yX2_forget, Cond.initialized RX2, Cond.code yX2_forget cX2_forget 1 none, Cond.fieldLink RX2 29 "AssemblyPlanner$Parting" "known" "Z", Cond.methodLink RX4 197 yX1_forget, Cond.instanceMethod yX1_forget, Cond.selects RX1 yX1_forget yX1_forget, Cond.initialized RX1, Cond.code yX1_forget cX1_forget 1 none, Cond.fieldLink RX1 32 "AssemblyPlanner$Ordering" "known" "Z", Cond.methodLink RX4 198 yX0_halt, Cond.instanceMethod yX0_halt, Cond.selects RX0 yX0_halt yX0_halt]
def wsL_setTool_r3 : List Cond := [Cond.initialized RX0, Cond.code yX0_halt cX0_halt 2 none, Cond.fieldLink RX0 29 "AssemblyPlanner$Cell" "begun" "Z", Cond.fieldLink RX0 33 "AssemblyPlanner$Cell" "placesIn" "I", Cond.fieldLink RX0 36 "AssemblyPlanner$Cell" "in" "I", Cond.fieldLink RX0 39 "AssemblyPlanner$Cell" "time" "I", Cond.fieldLink RX0 18 "AssemblyPlanner$Cell" "tool" "I", Cond.fieldLink RX0 15 "AssemblyPlanner$Cell" "jamsSinceStart" "[I", Cond.methodLink RX4 64 yX3_changeTool, Cond.instanceMethod yX3_changeTool, Cond.selects RX3 yX3_changeTool yX3_changeTool, Cond.code yX3_changeTool cX3_changeTool 4 (some .int), Cond.fieldLink RX3 9 "AssemblyPlanner$Product" "tools" "[I"]
def wsL_setTool : List Cond := .codeWith yL_setTool cL_setTool 5 (some .int) [(0, 10, 13, 21), (0, 10, 17, 13)] :: ((wsL_setTool_r1 ++ (wsL_setTool_r2 ++ wsL_setTool_r3)) ++ wsX40 ++ wsX30 ++ wsX20 ++ wsX10 ++ wsX00 ++ (vx_atS RX4 152 "java/lang/IndexOutOfBoundsException" ["java/lang/RuntimeException", "java/lang/Exception"]).filter goodWord ++ (vx_atS RX4 157 "java/lang/IllegalArgumentException" ["java/lang/RuntimeException", "java/lang/Exception"]).filter goodWord)
def wsL_contact_r1 : List Cond := [Cond.classLink RL 21 "java/lang/IndexOutOfBoundsException", Cond.classLink RL 13 "java/lang/IllegalArgumentException", Cond.methodLink RL 23 yX4_contact, Cond.instanceMethod yX4_contact, Cond.selects RX4 yX4_contact yX4_contact, Cond.initialized RX4, Cond.code yX4_contact cX4_contact 4 (some .int), Cond.fieldLink RX4 12 "AssemblyPlanner" "product" "LAssemblyPlanner$Product;", Cond.methodLink RX4 61 yX4_needPart, Cond.instanceMethod yX4_needPart, Cond.selects RX4 yX4_needPart yX4_needPart, Cond.code yX4_needPart cX4_needPart 2 none, Cond.classLink RX4 148 "java/lang/IndexOutOfBoundsException", Cond.initialized "java/lang/IndexOutOfBoundsException", Cond.methodLink RX4 43 yX3_count, Cond.instanceMethod yX3_count, Cond.selects RX3 yX3_count yX3_count, Cond.initialized RX3, Cond.code yX3_count cX3_count 1 (some .int), Cond.fieldLink RX3 21 "AssemblyPlanner$Product" "count" "I", Cond.methodLink RX4 68 yX4_needDifferent, Cond.instanceMethod yX4_needDifferent, Cond.selects RX4 yX4_needDifferent yX4_needDifferent, Cond.code yX4_needDifferent cX4_needDifferent 3 none]
def wsL_contact_r2 : List Cond := [Cond.classLink RX4 153 "java/lang/IllegalArgumentException", Cond.initialized "java/lang/IllegalArgumentException", Cond.methodLink RX4 54 yX4_productIsTold, Cond.instanceMethod yX4_productIsTold, Cond.selects RX4 yX4_productIsTold yX4_productIsTold, Cond.code yX4_productIsTold cX4_productIsTold 1 none, Cond.fieldLink RX4 21 "AssemblyPlanner" "parting" "LAssemblyPlanner$Parting;", Cond.fieldLink RX4 28 "AssemblyPlanner" "ordering" "LAssemblyPlanner$Ordering;", Cond.fieldLink RX4 35 "AssemblyPlanner" "cell" "LAssemblyPlanner$Cell;", Cond.methodLink RX4 194 yX2_forget, Cond.instanceMethod yX2_forget, Cond.selects RX2 yX2_forget yX2_forget, Cond.initialized RX2, Cond.code yX2_forget cX2_forget 1 none, Cond.fieldLink RX2 29 "AssemblyPlanner$Parting" "known" "Z", Cond.methodLink RX4 197 yX1_forget, Cond.instanceMethod yX1_forget, Cond.selects RX1 yX1_forget yX1_forget, Cond.initialized RX1, Cond.code yX1_forget cX1_forget 1 none, Cond.fieldLink RX1 32 "AssemblyPlanner$Ordering" "known" "Z", Cond.methodLink RX4 198 yX0_halt, Cond.instanceMethod yX0_halt, Cond.selects RX0 yX0_halt yX0_halt]
def wsL_contact_r3 : List Cond := [Cond.initialized RX0, Cond.code yX0_halt cX0_halt 2 none, Cond.fieldLink RX0 29 "AssemblyPlanner$Cell" "begun" "Z", Cond.fieldLink RX0 33 "AssemblyPlanner$Cell" "placesIn" "I", Cond.fieldLink RX0 36 "AssemblyPlanner$Cell" "in" "I", Cond.fieldLink RX0 39 "AssemblyPlanner$Cell" "time" "I", Cond.fieldLink RX0 18 "AssemblyPlanner$Cell" "tool" "I", Cond.fieldLink RX0 15 "AssemblyPlanner$Cell" "jamsSinceStart" "[I", Cond.methodLink RX4 72 yX3_tellContact, Cond.instanceMethod yX3_tellContact, Cond.selects RX3 yX3_tellContact yX3_tellContact, Cond.code yX3_tellContact cX3_tellContact 4 (some .int), Cond.fieldLink RX3 15 "AssemblyPlanner$Product" "contacts" "[I", Cond.methodLink RX3 25 yX3_changed, Cond.static yX3_changed, Cond.code yX3_changed cX3_changed 3 (some .int), Cond.methodLink RX3 29 yJ6_bitCount_0f7a4, Cond.static yJ6_bitCount_0f7a4, Cond.initialized RJ6, Cond.code yJ6_bitCount_0f7a4 cJ6_bitCount_0f7a4 1 (some .int), Cond.constant RJ6 265 (1431655765), Cond.constant RJ6 266 (858993459), Cond.constant RJ6 267 (252645135)]
def wsL_contact : List Cond := .codeWith yL_contact cL_contact 6 (some .int) [(0, 12, 15, 21), (0, 12, 19, 13)] :: ((wsL_contact_r1 ++ (wsL_contact_r2 ++ wsL_contact_r3)) ++ wsX40 ++ wsX30 ++ wsX20 ++ wsX10 ++ wsX00 ++ (vx_atS RX4 152 "java/lang/IndexOutOfBoundsException" ["java/lang/RuntimeException", "java/lang/Exception"]).filter goodWord ++ (vx_atS RX4 157 "java/lang/IllegalArgumentException" ["java/lang/RuntimeException", "java/lang/Exception"]).filter goodWord)
def wsL_hinder_r1 : List Cond := [Cond.classLink RL 21 "java/lang/IndexOutOfBoundsException", Cond.classLink RL 13 "java/lang/IllegalArgumentException", Cond.methodLink RL 27 yX4_hinder, Cond.instanceMethod yX4_hinder, Cond.selects RX4 yX4_hinder yX4_hinder, Cond.initialized RX4, Cond.code yX4_hinder cX4_hinder 5 (some .int), Cond.fieldLink RX4 12 "AssemblyPlanner" "product" "LAssemblyPlanner$Product;", Cond.methodLink RX4 61 yX4_needPart, Cond.instanceMethod yX4_needPart, Cond.selects RX4 yX4_needPart yX4_needPart, Cond.code yX4_needPart cX4_needPart 2 none, Cond.classLink RX4 148 "java/lang/IndexOutOfBoundsException", Cond.initialized "java/lang/IndexOutOfBoundsException", Cond.methodLink RX4 43 yX3_count, Cond.instanceMethod yX3_count, Cond.selects RX3 yX3_count yX3_count, Cond.initialized RX3, Cond.code yX3_count cX3_count 1 (some .int), Cond.fieldLink RX3 21 "AssemblyPlanner$Product" "count" "I", Cond.methodLink RX4 76 yX4_needDirection, Cond.instanceMethod yX4_needDirection, Cond.selects RX4 yX4_needDirection yX4_needDirection, Cond.code yX4_needDirection cX4_needDirection 2 none]
def wsL_hinder_r2 : List Cond := [Cond.methodLink RX4 68 yX4_needDifferent, Cond.instanceMethod yX4_needDifferent, Cond.selects RX4 yX4_needDifferent yX4_needDifferent, Cond.code yX4_needDifferent cX4_needDifferent 3 none, Cond.classLink RX4 153 "java/lang/IllegalArgumentException", Cond.initialized "java/lang/IllegalArgumentException", Cond.methodLink RX4 54 yX4_productIsTold, Cond.instanceMethod yX4_productIsTold, Cond.selects RX4 yX4_productIsTold yX4_productIsTold, Cond.code yX4_productIsTold cX4_productIsTold 1 none, Cond.fieldLink RX4 21 "AssemblyPlanner" "parting" "LAssemblyPlanner$Parting;", Cond.fieldLink RX4 28 "AssemblyPlanner" "ordering" "LAssemblyPlanner$Ordering;", Cond.fieldLink RX4 35 "AssemblyPlanner" "cell" "LAssemblyPlanner$Cell;", Cond.methodLink RX4 194 yX2_forget, Cond.instanceMethod yX2_forget, Cond.selects RX2 yX2_forget yX2_forget, Cond.initialized RX2, Cond.code yX2_forget cX2_forget 1 none, Cond.fieldLink RX2 29 "AssemblyPlanner$Parting" "known" "Z", Cond.methodLink RX4 197 yX1_forget, Cond.instanceMethod yX1_forget, Cond.selects RX1 yX1_forget yX1_forget, Cond.initialized RX1, Cond.code yX1_forget cX1_forget 1 none]
def wsL_hinder_r3 : List Cond := [Cond.fieldLink RX1 32 "AssemblyPlanner$Ordering" "known" "Z", Cond.methodLink RX4 198 yX0_halt, Cond.instanceMethod yX0_halt, Cond.selects RX0 yX0_halt yX0_halt, Cond.initialized RX0, Cond.code yX0_halt cX0_halt 2 none, Cond.fieldLink RX0 29 "AssemblyPlanner$Cell" "begun" "Z", Cond.fieldLink RX0 33 "AssemblyPlanner$Cell" "placesIn" "I", Cond.fieldLink RX0 36 "AssemblyPlanner$Cell" "in" "I", Cond.fieldLink RX0 39 "AssemblyPlanner$Cell" "time" "I", Cond.fieldLink RX0 18 "AssemblyPlanner$Cell" "tool" "I", Cond.fieldLink RX0 15 "AssemblyPlanner$Cell" "jamsSinceStart" "[I", Cond.methodLink RX4 79 yX3_tellHindered, Cond.instanceMethod yX3_tellHindered, Cond.selects RX3 yX3_tellHindered yX3_tellHindered, Cond.code yX3_tellHindered cX3_tellHindered 7 (some .int), Cond.fieldLink RX3 18 "AssemblyPlanner$Product" "hinderers" "[I", Cond.methodLink RX3 35 yX3_opposite, Cond.static yX3_opposite, Cond.code yX3_opposite cX3_opposite 1 (some .int), Cond.methodLink RX3 25 yX3_changed, Cond.static yX3_changed, Cond.code yX3_changed cX3_changed 3 (some .int), Cond.methodLink RX3 29 yJ6_bitCount_0f7a4]
def wsL_hinder_r4 : List Cond := [Cond.static yJ6_bitCount_0f7a4, Cond.initialized RJ6, Cond.code yJ6_bitCount_0f7a4 cJ6_bitCount_0f7a4 1 (some .int), Cond.constant RJ6 265 (1431655765), Cond.constant RJ6 266 (858993459), Cond.constant RJ6 267 (252645135)]
def wsL_hinder : List Cond := .codeWith yL_hinder cL_hinder 7 (some .int) [(0, 14, 17, 21), (0, 14, 21, 13)] :: ((wsL_hinder_r1 ++ (wsL_hinder_r2 ++ (wsL_hinder_r3 ++ wsL_hinder_r4))) ++ wsX40 ++ wsX30 ++ wsX20 ++ wsX10 ++ wsX00 ++ (vx_atS RX4 152 "java/lang/IndexOutOfBoundsException" ["java/lang/RuntimeException", "java/lang/Exception"]).filter goodWord ++ (vx_atS RX4 157 "java/lang/IllegalArgumentException" ["java/lang/RuntimeException", "java/lang/Exception"]).filter goodWord)
def wsL_setBase_r1 : List Cond := [Cond.classLink RL 21 "java/lang/IndexOutOfBoundsException", Cond.methodLink RL 31 yX4_setBase, Cond.instanceMethod yX4_setBase, Cond.selects RX4 yX4_setBase yX4_setBase, Cond.initialized RX4, Cond.code yX4_setBase cX4_setBase 2 (some .int), Cond.fieldLink RX4 12 "AssemblyPlanner" "product" "LAssemblyPlanner$Product;", Cond.methodLink RX4 61 yX4_needPart, Cond.instanceMethod yX4_needPart, Cond.selects RX4 yX4_needPart yX4_needPart, Cond.code yX4_needPart cX4_needPart 2 none, Cond.classLink RX4 148 "java/lang/IndexOutOfBoundsException", Cond.initialized "java/lang/IndexOutOfBoundsException", Cond.methodLink RX4 43 yX3_count, Cond.instanceMethod yX3_count, Cond.selects RX3 yX3_count yX3_count, Cond.initialized RX3, Cond.code yX3_count cX3_count 1 (some .int), Cond.fieldLink RX3 21 "AssemblyPlanner$Product" "count" "I", Cond.methodLink RX4 54 yX4_productIsTold, Cond.instanceMethod yX4_productIsTold, Cond.selects RX4 yX4_productIsTold yX4_productIsTold, Cond.code yX4_productIsTold cX4_productIsTold 1 none, Cond.fieldLink RX4 21 "AssemblyPlanner" "parting" "LAssemblyPlanner$Parting;"]
def wsL_setBase_r2 : List Cond := [Cond.fieldLink RX4 28 "AssemblyPlanner" "ordering" "LAssemblyPlanner$Ordering;", Cond.fieldLink RX4 35 "AssemblyPlanner" "cell" "LAssemblyPlanner$Cell;", Cond.methodLink RX4 194 yX2_forget, Cond.instanceMethod yX2_forget, Cond.selects RX2 yX2_forget yX2_forget, Cond.initialized RX2, Cond.code yX2_forget cX2_forget 1 none, Cond.fieldLink RX2 29 "AssemblyPlanner$Parting" "known" "Z", Cond.methodLink RX4 197 yX1_forget, Cond.instanceMethod yX1_forget, Cond.selects RX1 yX1_forget yX1_forget, Cond.initialized RX1, Cond.code yX1_forget cX1_forget 1 none, Cond.fieldLink RX1 32 "AssemblyPlanner$Ordering" "known" "Z", Cond.methodLink RX4 198 yX0_halt, Cond.instanceMethod yX0_halt, Cond.selects RX0 yX0_halt yX0_halt, Cond.initialized RX0, Cond.code yX0_halt cX0_halt 2 none, Cond.fieldLink RX0 29 "AssemblyPlanner$Cell" "begun" "Z", Cond.fieldLink RX0 33 "AssemblyPlanner$Cell" "placesIn" "I", Cond.fieldLink RX0 36 "AssemblyPlanner$Cell" "in" "I", Cond.fieldLink RX0 39 "AssemblyPlanner$Cell" "time" "I", Cond.fieldLink RX0 18 "AssemblyPlanner$Cell" "tool" "I"]
def wsL_setBase_r3 : List Cond := [Cond.fieldLink RX0 15 "AssemblyPlanner$Cell" "jamsSinceStart" "[I", Cond.methodLink RX4 83 yX3_changeBase, Cond.instanceMethod yX3_changeBase, Cond.selects RX3 yX3_changeBase yX3_changeBase, Cond.code yX3_changeBase cX3_changeBase 3 (some .int), Cond.fieldLink RX3 38 "AssemblyPlanner$Product" "base" "I"]
def wsL_setBase : List Cond := .codeWith yL_setBase cL_setBase 4 (some .int) [(0, 9, 12, 21)] :: ((wsL_setBase_r1 ++ (wsL_setBase_r2 ++ wsL_setBase_r3)) ++ wsX40 ++ wsX30 ++ wsX20 ++ wsX10 ++ wsX00 ++ (vx_atS RX4 152 "java/lang/IndexOutOfBoundsException" ["java/lang/RuntimeException", "java/lang/Exception"]).filter goodWord)
def wsL_isConnected_r1 : List Cond := [Cond.classLink RL 13 "java/lang/IllegalArgumentException", Cond.methodLink RL 34 yX4_isConnected, Cond.instanceMethod yX4_isConnected, Cond.selects RX4 yX4_isConnected yX4_isConnected, Cond.initialized RX4, Cond.code yX4_isConnected cX4_isConnected 2 (some .boolean), Cond.fieldLink RX4 12 "AssemblyPlanner" "product" "LAssemblyPlanner$Product;", Cond.methodLink RX4 90 yX4_needSet, Cond.instanceMethod yX4_needSet, Cond.selects RX4 yX4_needSet yX4_needSet, Cond.code yX4_needSet cX4_needSet 2 none, Cond.classLink RX4 153 "java/lang/IllegalArgumentException", Cond.initialized "java/lang/IllegalArgumentException", Cond.methodLink RX4 125 yX3_all, Cond.instanceMethod yX3_all, Cond.selects RX3 yX3_all yX3_all, Cond.initialized RX3, Cond.code yX3_all cX3_all 1 (some .int), Cond.fieldLink RX3 21 "AssemblyPlanner$Product" "count" "I", Cond.methodLink RX4 93 yX3_connected, Cond.instanceMethod yX3_connected, Cond.selects RX3 yX3_connected yX3_connected, Cond.code yX3_connected cX3_connected 3 (some .boolean), Cond.fieldLink RX3 15 "AssemblyPlanner$Product" "contacts" "[I"]
def wsL_isConnected_r2 : List Cond := [Cond.methodLink RX3 45 yX3_reached, Cond.static yX3_reached, Cond.code yX3_reached cX3_reached 7 (some .int)]
def wsL_isConnected : List Cond := .codeWith yL_isConnected cL_isConnected 4 (some .int) [(0, 16, 19, 13)] :: ((wsL_isConnected_r1 ++ wsL_isConnected_r2) ++ wsX40 ++ wsX30 ++ (vx_atS RX4 157 "java/lang/IllegalArgumentException" ["java/lang/RuntimeException", "java/lang/Exception"]).filter goodWord)
def wsL_isSteady_r1 : List Cond := [Cond.classLink RL 13 "java/lang/IllegalArgumentException", Cond.methodLink RL 38 yX4_isSteady, Cond.instanceMethod yX4_isSteady, Cond.selects RX4 yX4_isSteady yX4_isSteady, Cond.initialized RX4, Cond.code yX4_isSteady cX4_isSteady 2 (some .boolean), Cond.fieldLink RX4 12 "AssemblyPlanner" "product" "LAssemblyPlanner$Product;", Cond.methodLink RX4 90 yX4_needSet, Cond.instanceMethod yX4_needSet, Cond.selects RX4 yX4_needSet yX4_needSet, Cond.code yX4_needSet cX4_needSet 2 none, Cond.classLink RX4 153 "java/lang/IllegalArgumentException", Cond.initialized "java/lang/IllegalArgumentException", Cond.methodLink RX4 125 yX3_all, Cond.instanceMethod yX3_all, Cond.selects RX3 yX3_all yX3_all, Cond.initialized RX3, Cond.code yX3_all cX3_all 1 (some .int), Cond.fieldLink RX3 21 "AssemblyPlanner$Product" "count" "I", Cond.methodLink RX4 97 yX3_steady, Cond.instanceMethod yX3_steady, Cond.selects RX3 yX3_steady yX3_steady, Cond.code yX3_steady cX3_steady 2 (some .boolean), Cond.fieldLink RX3 18 "AssemblyPlanner$Product" "hinderers" "[I"]
def wsL_isSteady_r2 : List Cond := [Cond.fieldLink RX3 38 "AssemblyPlanner$Product" "base" "I", Cond.methodLink RX3 45 yX3_reached, Cond.static yX3_reached, Cond.code yX3_reached cX3_reached 7 (some .int)]
def wsL_isSteady : List Cond := .codeWith yL_isSteady cL_isSteady 4 (some .int) [(0, 16, 19, 13)] :: ((wsL_isSteady_r1 ++ wsL_isSteady_r2) ++ wsX40 ++ wsX30 ++ (vx_atS RX4 157 "java/lang/IllegalArgumentException" ["java/lang/RuntimeException", "java/lang/Exception"]).filter goodWord)
def wsL_free_r1 : List Cond := [Cond.classLink RL 21 "java/lang/IndexOutOfBoundsException", Cond.classLink RL 13 "java/lang/IllegalArgumentException", Cond.methodLink RL 41 yX4_free, Cond.instanceMethod yX4_free, Cond.selects RX4 yX4_free yX4_free, Cond.initialized RX4, Cond.code yX4_free cX4_free 3 (some .int), Cond.fieldLink RX4 12 "AssemblyPlanner" "product" "LAssemblyPlanner$Product;", Cond.methodLink RX4 61 yX4_needPart, Cond.instanceMethod yX4_needPart, Cond.selects RX4 yX4_needPart yX4_needPart, Cond.code yX4_needPart cX4_needPart 2 none, Cond.classLink RX4 148 "java/lang/IndexOutOfBoundsException", Cond.initialized "java/lang/IndexOutOfBoundsException", Cond.methodLink RX4 43 yX3_count, Cond.instanceMethod yX3_count, Cond.selects RX3 yX3_count yX3_count, Cond.initialized RX3, Cond.code yX3_count cX3_count 1 (some .int), Cond.fieldLink RX3 21 "AssemblyPlanner$Product" "count" "I", Cond.methodLink RX4 100 yX4_needSetWith, Cond.instanceMethod yX4_needSetWith, Cond.selects RX4 yX4_needSetWith yX4_needSetWith, Cond.code yX4_needSetWith cX4_needSetWith 3 none]
def wsL_free_r2 : List Cond := [Cond.classLink RX4 153 "java/lang/IllegalArgumentException", Cond.initialized "java/lang/IllegalArgumentException", Cond.methodLink RX4 90 yX4_needSet, Cond.instanceMethod yX4_needSet, Cond.selects RX4 yX4_needSet yX4_needSet, Cond.code yX4_needSet cX4_needSet 2 none, Cond.methodLink RX4 125 yX3_all, Cond.instanceMethod yX3_all, Cond.selects RX3 yX3_all yX3_all, Cond.code yX3_all cX3_all 1 (some .int), Cond.methodLink RX4 103 yX3_freeDirections, Cond.instanceMethod yX3_freeDirections, Cond.selects RX3 yX3_freeDirections yX3_freeDirections, Cond.code yX3_freeDirections cX3_freeDirections 5 (some .int), Cond.fieldLink RX3 18 "AssemblyPlanner$Product" "hinderers" "[I"]
def wsL_free : List Cond := .codeWith yL_free cL_free 5 (some .int) [(0, 10, 13, 21), (0, 10, 17, 13)] :: ((wsL_free_r1 ++ wsL_free_r2) ++ wsX40 ++ wsX30 ++ (vx_atS RX4 152 "java/lang/IndexOutOfBoundsException" ["java/lang/RuntimeException", "java/lang/Exception"]).filter goodWord ++ (vx_atS RX4 157 "java/lang/IllegalArgumentException" ["java/lang/RuntimeException", "java/lang/Exception"]).filter goodWord)
def wsL_canTake_r1 : List Cond := [Cond.classLink RL 21 "java/lang/IndexOutOfBoundsException", Cond.classLink RL 13 "java/lang/IllegalArgumentException", Cond.methodLink RL 44 yX4_canTake, Cond.instanceMethod yX4_canTake, Cond.selects RX4 yX4_canTake yX4_canTake, Cond.initialized RX4, Cond.code yX4_canTake cX4_canTake 3 (some .boolean), Cond.fieldLink RX4 12 "AssemblyPlanner" "product" "LAssemblyPlanner$Product;", Cond.methodLink RX4 61 yX4_needPart, Cond.instanceMethod yX4_needPart, Cond.selects RX4 yX4_needPart yX4_needPart, Cond.code yX4_needPart cX4_needPart 2 none, Cond.classLink RX4 148 "java/lang/IndexOutOfBoundsException", Cond.initialized "java/lang/IndexOutOfBoundsException", Cond.methodLink RX4 43 yX3_count, Cond.instanceMethod yX3_count, Cond.selects RX3 yX3_count yX3_count, Cond.initialized RX3, Cond.code yX3_count cX3_count 1 (some .int), Cond.fieldLink RX3 21 "AssemblyPlanner$Product" "count" "I", Cond.methodLink RX4 100 yX4_needSetWith, Cond.instanceMethod yX4_needSetWith, Cond.selects RX4 yX4_needSetWith yX4_needSetWith, Cond.code yX4_needSetWith cX4_needSetWith 3 none]
def wsL_canTake_r2 : List Cond := [Cond.classLink RX4 153 "java/lang/IllegalArgumentException", Cond.initialized "java/lang/IllegalArgumentException", Cond.methodLink RX4 90 yX4_needSet, Cond.instanceMethod yX4_needSet, Cond.selects RX4 yX4_needSet yX4_needSet, Cond.code yX4_needSet cX4_needSet 2 none, Cond.methodLink RX4 125 yX3_all, Cond.instanceMethod yX3_all, Cond.selects RX3 yX3_all yX3_all, Cond.code yX3_all cX3_all 1 (some .int), Cond.methodLink RX4 106 yX3_takeable, Cond.instanceMethod yX3_takeable, Cond.selects RX3 yX3_takeable yX3_takeable, Cond.code yX3_takeable cX3_takeable 3 (some .boolean), Cond.methodLink RX3 56 yX3_sound, Cond.instanceMethod yX3_sound, Cond.selects RX3 yX3_sound yX3_sound, Cond.code yX3_sound cX3_sound 2 (some .boolean), Cond.fieldLink RX3 41 "AssemblyPlanner$Product" "steadyAsked" "Z", Cond.methodLink RX3 49 yX3_connected, Cond.instanceMethod yX3_connected, Cond.selects RX3 yX3_connected yX3_connected, Cond.code yX3_connected cX3_connected 3 (some .boolean), Cond.fieldLink RX3 15 "AssemblyPlanner$Product" "contacts" "[I"]
def wsL_canTake_r3 : List Cond := [Cond.methodLink RX3 45 yX3_reached, Cond.static yX3_reached, Cond.code yX3_reached cX3_reached 7 (some .int), Cond.methodLink RX3 53 yX3_steady, Cond.instanceMethod yX3_steady, Cond.selects RX3 yX3_steady yX3_steady, Cond.code yX3_steady cX3_steady 2 (some .boolean), Cond.fieldLink RX3 18 "AssemblyPlanner$Product" "hinderers" "[I", Cond.fieldLink RX3 38 "AssemblyPlanner$Product" "base" "I", Cond.methodLink RX3 59 yX3_freeDirections, Cond.instanceMethod yX3_freeDirections, Cond.selects RX3 yX3_freeDirections yX3_freeDirections, Cond.code yX3_freeDirections cX3_freeDirections 5 (some .int)]
def wsL_canTake : List Cond := .codeWith yL_canTake cL_canTake 5 (some .int) [(0, 17, 20, 21), (0, 17, 24, 13)] :: ((wsL_canTake_r1 ++ (wsL_canTake_r2 ++ wsL_canTake_r3)) ++ wsX40 ++ wsX30 ++ (vx_atS RX4 152 "java/lang/IndexOutOfBoundsException" ["java/lang/RuntimeException", "java/lang/Exception"]).filter goodWord ++ (vx_atS RX4 157 "java/lang/IllegalArgumentException" ["java/lang/RuntimeException", "java/lang/Exception"]).filter goodWord)
def wsL_movesWith_r1 : List Cond := [Cond.classLink RL 21 "java/lang/IndexOutOfBoundsException", Cond.methodLink RL 48 yX4_movesWith, Cond.instanceMethod yX4_movesWith, Cond.selects RX4 yX4_movesWith yX4_movesWith, Cond.initialized RX4, Cond.code yX4_movesWith cX4_movesWith 3 (some .int), Cond.fieldLink RX4 12 "AssemblyPlanner" "product" "LAssemblyPlanner$Product;", Cond.methodLink RX4 61 yX4_needPart, Cond.instanceMethod yX4_needPart, Cond.selects RX4 yX4_needPart yX4_needPart, Cond.code yX4_needPart cX4_needPart 2 none, Cond.classLink RX4 148 "java/lang/IndexOutOfBoundsException", Cond.initialized "java/lang/IndexOutOfBoundsException", Cond.methodLink RX4 43 yX3_count, Cond.instanceMethod yX3_count, Cond.selects RX3 yX3_count yX3_count, Cond.initialized RX3, Cond.code yX3_count cX3_count 1 (some .int), Cond.fieldLink RX3 21 "AssemblyPlanner$Product" "count" "I", Cond.methodLink RX4 76 yX4_needDirection, Cond.instanceMethod yX4_needDirection, Cond.selects RX4 yX4_needDirection yX4_needDirection, Cond.code yX4_needDirection cX4_needDirection 2 none, Cond.methodLink RX4 110 yX3_movingWith]
def wsL_movesWith_r2 : List Cond := [Cond.instanceMethod yX3_movingWith, Cond.selects RX3 yX3_movingWith yX3_movingWith, Cond.code yX3_movingWith cX3_movingWith 3 (some .int), Cond.fieldLink RX3 18 "AssemblyPlanner$Product" "hinderers" "[I", Cond.methodLink RX3 63 yX3_all, Cond.instanceMethod yX3_all, Cond.selects RX3 yX3_all yX3_all, Cond.code yX3_all cX3_all 1 (some .int), Cond.methodLink RX3 45 yX3_reached, Cond.static yX3_reached, Cond.code yX3_reached cX3_reached 7 (some .int)]
def wsL_movesWith : List Cond := .codeWith yL_movesWith cL_movesWith 5 (some .int) [(0, 10, 13, 21)] :: ((wsL_movesWith_r1 ++ wsL_movesWith_r2) ++ wsX40 ++ wsX30 ++ (vx_atS RX4 152 "java/lang/IndexOutOfBoundsException" ["java/lang/RuntimeException", "java/lang/Exception"]).filter goodWord)
def wsL_boundTo_r1 : List Cond := [Cond.classLink RL 21 "java/lang/IndexOutOfBoundsException", Cond.methodLink RL 51 yX4_boundTo, Cond.instanceMethod yX4_boundTo, Cond.selects RX4 yX4_boundTo yX4_boundTo, Cond.initialized RX4, Cond.code yX4_boundTo cX4_boundTo 3 (some .int), Cond.fieldLink RX4 12 "AssemblyPlanner" "product" "LAssemblyPlanner$Product;", Cond.methodLink RX4 61 yX4_needPart, Cond.instanceMethod yX4_needPart, Cond.selects RX4 yX4_needPart yX4_needPart, Cond.code yX4_needPart cX4_needPart 2 none, Cond.classLink RX4 148 "java/lang/IndexOutOfBoundsException", Cond.initialized "java/lang/IndexOutOfBoundsException", Cond.methodLink RX4 43 yX3_count, Cond.instanceMethod yX3_count, Cond.selects RX3 yX3_count yX3_count, Cond.initialized RX3, Cond.code yX3_count cX3_count 1 (some .int), Cond.fieldLink RX3 21 "AssemblyPlanner$Product" "count" "I", Cond.methodLink RX4 76 yX4_needDirection, Cond.instanceMethod yX4_needDirection, Cond.selects RX4 yX4_needDirection yX4_needDirection, Cond.code yX4_needDirection cX4_needDirection 2 none, Cond.methodLink RX4 113 yX3_boundWith]
def wsL_boundTo_r2 : List Cond := [Cond.instanceMethod yX3_boundWith, Cond.selects RX3 yX3_boundWith yX3_boundWith, Cond.code yX3_boundWith cX3_boundWith 3 (some .int), Cond.methodLink RX3 67 yX3_movingWith, Cond.instanceMethod yX3_movingWith, Cond.selects RX3 yX3_movingWith yX3_movingWith, Cond.code yX3_movingWith cX3_movingWith 3 (some .int), Cond.fieldLink RX3 18 "AssemblyPlanner$Product" "hinderers" "[I", Cond.methodLink RX3 63 yX3_all, Cond.instanceMethod yX3_all, Cond.selects RX3 yX3_all yX3_all, Cond.code yX3_all cX3_all 1 (some .int), Cond.methodLink RX3 45 yX3_reached, Cond.static yX3_reached, Cond.code yX3_reached cX3_reached 7 (some .int), Cond.methodLink RX3 35 yX3_opposite, Cond.static yX3_opposite, Cond.code yX3_opposite cX3_opposite 1 (some .int)]
def wsL_boundTo : List Cond := .codeWith yL_boundTo cL_boundTo 5 (some .int) [(0, 10, 13, 21)] :: ((wsL_boundTo_r1 ++ wsL_boundTo_r2) ++ wsX40 ++ wsX30 ++ (vx_atS RX4 152 "java/lang/IndexOutOfBoundsException" ["java/lang/RuntimeException", "java/lang/Exception"]).filter goodWord)
def wsL_groups_r1 : List Cond := [Cond.classLink RL 21 "java/lang/IndexOutOfBoundsException", Cond.methodLink RL 54 yX4_groups, Cond.instanceMethod yX4_groups, Cond.selects RX4 yX4_groups yX4_groups, Cond.initialized RX4, Cond.code yX4_groups cX4_groups 2 (some .int), Cond.fieldLink RX4 12 "AssemblyPlanner" "product" "LAssemblyPlanner$Product;", Cond.methodLink RX4 76 yX4_needDirection, Cond.instanceMethod yX4_needDirection, Cond.selects RX4 yX4_needDirection yX4_needDirection, Cond.code yX4_needDirection cX4_needDirection 2 none, Cond.classLink RX4 148 "java/lang/IndexOutOfBoundsException", Cond.initialized "java/lang/IndexOutOfBoundsException", Cond.methodLink RX4 116 yX3_boundGroups, Cond.instanceMethod yX3_boundGroups, Cond.selects RX3 yX3_boundGroups yX3_boundGroups, Cond.initialized RX3, Cond.code yX3_boundGroups cX3_boundGroups 5 (some .int), Cond.fieldLink RX3 21 "AssemblyPlanner$Product" "count" "I", Cond.methodLink RX3 70 yX3_boundWith, Cond.instanceMethod yX3_boundWith, Cond.selects RX3 yX3_boundWith yX3_boundWith, Cond.code yX3_boundWith cX3_boundWith 3 (some .int), Cond.methodLink RX3 67 yX3_movingWith]
def wsL_groups_r2 : List Cond := [Cond.instanceMethod yX3_movingWith, Cond.selects RX3 yX3_movingWith yX3_movingWith, Cond.code yX3_movingWith cX3_movingWith 3 (some .int), Cond.fieldLink RX3 18 "AssemblyPlanner$Product" "hinderers" "[I", Cond.methodLink RX3 63 yX3_all, Cond.instanceMethod yX3_all, Cond.selects RX3 yX3_all yX3_all, Cond.code yX3_all cX3_all 1 (some .int), Cond.methodLink RX3 45 yX3_reached, Cond.static yX3_reached, Cond.code yX3_reached cX3_reached 7 (some .int), Cond.methodLink RX3 35 yX3_opposite, Cond.static yX3_opposite, Cond.code yX3_opposite cX3_opposite 1 (some .int)]
def wsL_groups : List Cond := .codeWith yL_groups cL_groups 4 (some .int) [(0, 9, 12, 21)] :: ((wsL_groups_r1 ++ wsL_groups_r2) ++ wsX40 ++ wsX30 ++ (vx_atS RX4 152 "java/lang/IndexOutOfBoundsException" ["java/lang/RuntimeException", "java/lang/Exception"]).filter goodWord)
def wsL_splits_r1 : List Cond := [Cond.classLink RL 13 "java/lang/IllegalArgumentException", Cond.methodLink RL 57 yX4_splits, Cond.instanceMethod yX4_splits, Cond.selects RX4 yX4_splits yX4_splits, Cond.initialized RX4, Cond.code yX4_splits cX4_splits 2 (some .int), Cond.fieldLink RX4 21 "AssemblyPlanner" "parting" "LAssemblyPlanner$Parting;", Cond.methodLink RX4 90 yX4_needSet, Cond.instanceMethod yX4_needSet, Cond.selects RX4 yX4_needSet yX4_needSet, Cond.code yX4_needSet cX4_needSet 2 none, Cond.classLink RX4 153 "java/lang/IllegalArgumentException", Cond.initialized "java/lang/IllegalArgumentException", Cond.fieldLink RX4 12 "AssemblyPlanner" "product" "LAssemblyPlanner$Product;", Cond.methodLink RX4 125 yX3_all, Cond.instanceMethod yX3_all, Cond.selects RX3 yX3_all yX3_all, Cond.initialized RX3, Cond.code yX3_all cX3_all 1 (some .int), Cond.fieldLink RX3 21 "AssemblyPlanner$Product" "count" "I", Cond.methodLink RX4 119 yX2_splitsOf, Cond.instanceMethod yX2_splitsOf, Cond.selects RX2 yX2_splitsOf yX2_splitsOf, Cond.initialized RX2]
def wsL_splits_r2 : List Cond := [Cond.code yX2_splitsOf cX2_splitsOf 2 (some .int), Cond.fieldLink RX2 15 "AssemblyPlanner$Parting" "splits" "[I", Cond.methodLink RX2 33 yX2_find, Cond.instanceMethod yX2_find, Cond.selects RX2 yX2_find yX2_find, Cond.code yX2_find cX2_find 2 none, Cond.fieldLink RX2 29 "AssemblyPlanner$Parting" "known" "Z", Cond.fieldLink RX2 25 "AssemblyPlanner$Parting" "product" "LAssemblyPlanner$Product;", Cond.fieldLink RX2 9 "AssemblyPlanner$Parting" "connected" "[Z", Cond.methodLink RX2 36 yX3_all, Cond.methodLink RX2 42 yX3_connected, Cond.instanceMethod yX3_connected, Cond.selects RX3 yX3_connected yX3_connected, Cond.code yX3_connected cX3_connected 3 (some .boolean), Cond.fieldLink RX3 15 "AssemblyPlanner$Product" "contacts" "[I", Cond.methodLink RX3 45 yX3_reached, Cond.static yX3_reached, Cond.code yX3_reached cX3_reached 7 (some .int), Cond.methodLink RX2 45 yX2_findFor, Cond.instanceMethod yX2_findFor, Cond.selects RX2 yX2_findFor yX2_findFor, Cond.code yX2_findFor cX2_findFor 4 none, Cond.fieldLink RX2 19 "AssemblyPlanner$Parting" "ways" "[I", Cond.fieldLink RX2 22 "AssemblyPlanner$Parting" "depths" "[I"]
def wsL_splits_r3 : List Cond := [Cond.methodLink RX2 49 yX2_isSplit, Cond.instanceMethod yX2_isSplit, Cond.selects RX2 yX2_isSplit yX2_isSplit, Cond.code yX2_isSplit cX2_isSplit 3 (some .boolean), Cond.methodLink RX2 57 yX3_separable, Cond.instanceMethod yX3_separable, Cond.selects RX3 yX3_separable yX3_separable, Cond.code yX3_separable cX3_separable 4 (some .boolean), Cond.methodLink RX3 73 yX3_hindered, Cond.instanceMethod yX3_hindered, Cond.selects RX3 yX3_hindered yX3_hindered, Cond.code yX3_hindered cX3_hindered 5 (some .boolean), Cond.fieldLink RX3 18 "AssemblyPlanner$Product" "hinderers" "[I", Cond.methodLink RX2 53 yX2_addSplit, Cond.instanceMethod yX2_addSplit, Cond.selects RX2 yX2_addSplit yX2_addSplit, Cond.code yX2_addSplit cX2_addSplit 5 none, Cond.methodLink RX2 60 Lib.Math.max.name, Cond.static Lib.Math.max.name, Cond.initialized "java/lang/Math", Cond.code Lib.Math.max.name Lib.Math.max.code 2 (some .int), Cond.methodLink RX2 66 Lib.Math.min.name, Cond.static Lib.Math.min.name, Cond.code Lib.Math.min.name Lib.Math.min.code 2 (some .int)]
def wsL_splits : List Cond := .codeWith yL_splits cL_splits 4 (some .int) [(0, 9, 12, 13)] :: ((wsL_splits_r1 ++ (wsL_splits_r2 ++ wsL_splits_r3)) ++ wsX40 ++ wsX30 ++ wsX20 ++ (vx_atS RX4 157 "java/lang/IllegalArgumentException" ["java/lang/RuntimeException", "java/lang/Exception"]).filter goodWord)
def wsL_ways_r1 : List Cond := [Cond.classLink RL 15 "java/lang/IllegalStateException", Cond.methodLink RL 60 yX4_ways, Cond.instanceMethod yX4_ways, Cond.selects RX4 yX4_ways yX4_ways, Cond.initialized RX4, Cond.code yX4_ways cX4_ways 1 (some .int), Cond.fieldLink RX4 21 "AssemblyPlanner" "parting" "LAssemblyPlanner$Parting;", Cond.fieldLink RX4 12 "AssemblyPlanner" "product" "LAssemblyPlanner$Product;", Cond.methodLink RX4 122 yX4_needParts, Cond.instanceMethod yX4_needParts, Cond.selects RX4 yX4_needParts yX4_needParts, Cond.code yX4_needParts cX4_needParts 1 none, Cond.classLink RX4 47 "java/lang/IllegalStateException", Cond.initialized "java/lang/IllegalStateException", Cond.methodLink RX4 43 yX3_count, Cond.instanceMethod yX3_count, Cond.selects RX3 yX3_count yX3_count, Cond.initialized RX3, Cond.code yX3_count cX3_count 1 (some .int), Cond.fieldLink RX3 21 "AssemblyPlanner$Product" "count" "I", Cond.methodLink RX4 125 yX3_all, Cond.instanceMethod yX3_all, Cond.selects RX3 yX3_all yX3_all, Cond.code yX3_all cX3_all 1 (some .int)]
def wsL_ways_r2 : List Cond := [Cond.methodLink RX4 128 yX2_waysOf, Cond.instanceMethod yX2_waysOf, Cond.selects RX2 yX2_waysOf yX2_waysOf, Cond.initialized RX2, Cond.code yX2_waysOf cX2_waysOf 2 (some .int), Cond.fieldLink RX2 19 "AssemblyPlanner$Parting" "ways" "[I", Cond.methodLink RX2 33 yX2_find, Cond.instanceMethod yX2_find, Cond.selects RX2 yX2_find yX2_find, Cond.code yX2_find cX2_find 2 none, Cond.fieldLink RX2 29 "AssemblyPlanner$Parting" "known" "Z", Cond.fieldLink RX2 25 "AssemblyPlanner$Parting" "product" "LAssemblyPlanner$Product;", Cond.fieldLink RX2 9 "AssemblyPlanner$Parting" "connected" "[Z", Cond.methodLink RX2 36 yX3_all, Cond.methodLink RX2 42 yX3_connected, Cond.instanceMethod yX3_connected, Cond.selects RX3 yX3_connected yX3_connected, Cond.code yX3_connected cX3_connected 3 (some .boolean), Cond.fieldLink RX3 15 "AssemblyPlanner$Product" "contacts" "[I", Cond.methodLink RX3 45 yX3_reached, Cond.static yX3_reached, Cond.code yX3_reached cX3_reached 7 (some .int), Cond.methodLink RX2 45 yX2_findFor, Cond.instanceMethod yX2_findFor]
def wsL_ways_r3 : List Cond := [Cond.selects RX2 yX2_findFor yX2_findFor, Cond.code yX2_findFor cX2_findFor 4 none, Cond.fieldLink RX2 15 "AssemblyPlanner$Parting" "splits" "[I", Cond.fieldLink RX2 22 "AssemblyPlanner$Parting" "depths" "[I", Cond.methodLink RX2 49 yX2_isSplit, Cond.instanceMethod yX2_isSplit, Cond.selects RX2 yX2_isSplit yX2_isSplit, Cond.code yX2_isSplit cX2_isSplit 3 (some .boolean), Cond.methodLink RX2 57 yX3_separable, Cond.instanceMethod yX3_separable, Cond.selects RX3 yX3_separable yX3_separable, Cond.code yX3_separable cX3_separable 4 (some .boolean), Cond.methodLink RX3 73 yX3_hindered, Cond.instanceMethod yX3_hindered, Cond.selects RX3 yX3_hindered yX3_hindered, Cond.code yX3_hindered cX3_hindered 5 (some .boolean), Cond.fieldLink RX3 18 "AssemblyPlanner$Product" "hinderers" "[I", Cond.methodLink RX2 53 yX2_addSplit, Cond.instanceMethod yX2_addSplit, Cond.selects RX2 yX2_addSplit yX2_addSplit, Cond.code yX2_addSplit cX2_addSplit 5 none, Cond.methodLink RX2 60 Lib.Math.max.name, Cond.static Lib.Math.max.name, Cond.initialized "java/lang/Math"]
def wsL_ways_r4 : List Cond := [Cond.code Lib.Math.max.name Lib.Math.max.code 2 (some .int), Cond.methodLink RX2 66 Lib.Math.min.name, Cond.static Lib.Math.min.name, Cond.code Lib.Math.min.name Lib.Math.min.code 2 (some .int)]
def wsL_ways : List Cond := .codeWith yL_ways cL_ways 3 (some .int) [(0, 8, 11, 15)] :: ((wsL_ways_r1 ++ (wsL_ways_r2 ++ (wsL_ways_r3 ++ wsL_ways_r4))) ++ wsX40 ++ wsX30 ++ wsX20 ++ (vx_atS RX4 51 "java/lang/IllegalStateException" ["java/lang/RuntimeException", "java/lang/Exception"]).filter goodWord)
def wsL_leastDepth_r1 : List Cond := [Cond.classLink RL 15 "java/lang/IllegalStateException", Cond.methodLink RL 64 yX4_leastDepth, Cond.instanceMethod yX4_leastDepth, Cond.selects RX4 yX4_leastDepth yX4_leastDepth, Cond.initialized RX4, Cond.code yX4_leastDepth cX4_leastDepth 1 (some .int), Cond.fieldLink RX4 21 "AssemblyPlanner" "parting" "LAssemblyPlanner$Parting;", Cond.fieldLink RX4 12 "AssemblyPlanner" "product" "LAssemblyPlanner$Product;", Cond.methodLink RX4 122 yX4_needParts, Cond.instanceMethod yX4_needParts, Cond.selects RX4 yX4_needParts yX4_needParts, Cond.code yX4_needParts cX4_needParts 1 none, Cond.classLink RX4 47 "java/lang/IllegalStateException", Cond.initialized "java/lang/IllegalStateException", Cond.methodLink RX4 43 yX3_count, Cond.instanceMethod yX3_count, Cond.selects RX3 yX3_count yX3_count, Cond.initialized RX3, Cond.code yX3_count cX3_count 1 (some .int), Cond.fieldLink RX3 21 "AssemblyPlanner$Product" "count" "I", Cond.methodLink RX4 125 yX3_all, Cond.instanceMethod yX3_all, Cond.selects RX3 yX3_all yX3_all, Cond.code yX3_all cX3_all 1 (some .int)]
def wsL_leastDepth_r2 : List Cond := [Cond.methodLink RX4 131 yX2_leastDepthOf, Cond.instanceMethod yX2_leastDepthOf, Cond.selects RX2 yX2_leastDepthOf yX2_leastDepthOf, Cond.initialized RX2, Cond.code yX2_leastDepthOf cX2_leastDepthOf 2 (some .int), Cond.fieldLink RX2 22 "AssemblyPlanner$Parting" "depths" "[I", Cond.methodLink RX2 33 yX2_find, Cond.instanceMethod yX2_find, Cond.selects RX2 yX2_find yX2_find, Cond.code yX2_find cX2_find 2 none, Cond.fieldLink RX2 29 "AssemblyPlanner$Parting" "known" "Z", Cond.fieldLink RX2 25 "AssemblyPlanner$Parting" "product" "LAssemblyPlanner$Product;", Cond.fieldLink RX2 9 "AssemblyPlanner$Parting" "connected" "[Z", Cond.methodLink RX2 36 yX3_all, Cond.methodLink RX2 42 yX3_connected, Cond.instanceMethod yX3_connected, Cond.selects RX3 yX3_connected yX3_connected, Cond.code yX3_connected cX3_connected 3 (some .boolean), Cond.fieldLink RX3 15 "AssemblyPlanner$Product" "contacts" "[I", Cond.methodLink RX3 45 yX3_reached, Cond.static yX3_reached, Cond.code yX3_reached cX3_reached 7 (some .int), Cond.methodLink RX2 45 yX2_findFor, Cond.instanceMethod yX2_findFor]
def wsL_leastDepth_r3 : List Cond := [Cond.selects RX2 yX2_findFor yX2_findFor, Cond.code yX2_findFor cX2_findFor 4 none, Cond.fieldLink RX2 15 "AssemblyPlanner$Parting" "splits" "[I", Cond.fieldLink RX2 19 "AssemblyPlanner$Parting" "ways" "[I", Cond.methodLink RX2 49 yX2_isSplit, Cond.instanceMethod yX2_isSplit, Cond.selects RX2 yX2_isSplit yX2_isSplit, Cond.code yX2_isSplit cX2_isSplit 3 (some .boolean), Cond.methodLink RX2 57 yX3_separable, Cond.instanceMethod yX3_separable, Cond.selects RX3 yX3_separable yX3_separable, Cond.code yX3_separable cX3_separable 4 (some .boolean), Cond.methodLink RX3 73 yX3_hindered, Cond.instanceMethod yX3_hindered, Cond.selects RX3 yX3_hindered yX3_hindered, Cond.code yX3_hindered cX3_hindered 5 (some .boolean), Cond.fieldLink RX3 18 "AssemblyPlanner$Product" "hinderers" "[I", Cond.methodLink RX2 53 yX2_addSplit, Cond.instanceMethod yX2_addSplit, Cond.selects RX2 yX2_addSplit yX2_addSplit, Cond.code yX2_addSplit cX2_addSplit 5 none, Cond.methodLink RX2 60 Lib.Math.max.name, Cond.static Lib.Math.max.name, Cond.initialized "java/lang/Math"]
def wsL_leastDepth_r4 : List Cond := [Cond.code Lib.Math.max.name Lib.Math.max.code 2 (some .int), Cond.methodLink RX2 66 Lib.Math.min.name, Cond.static Lib.Math.min.name, Cond.code Lib.Math.min.name Lib.Math.min.code 2 (some .int)]
def wsL_leastDepth : List Cond := .codeWith yL_leastDepth cL_leastDepth 3 (some .int) [(0, 8, 11, 15)] :: ((wsL_leastDepth_r1 ++ (wsL_leastDepth_r2 ++ (wsL_leastDepth_r3 ++ wsL_leastDepth_r4))) ++ wsX40 ++ wsX30 ++ wsX20 ++ (vx_atS RX4 51 "java/lang/IllegalStateException" ["java/lang/RuntimeException", "java/lang/Exception"]).filter goodWord)
def wsL_orders_r1 : List Cond := [Cond.classLink RL 15 "java/lang/IllegalStateException", Cond.methodLink RL 67 yX4_orders, Cond.instanceMethod yX4_orders, Cond.selects RX4 yX4_orders yX4_orders, Cond.initialized RX4, Cond.code yX4_orders cX4_orders 1 (some .int), Cond.fieldLink RX4 28 "AssemblyPlanner" "ordering" "LAssemblyPlanner$Ordering;", Cond.methodLink RX4 122 yX4_needParts, Cond.instanceMethod yX4_needParts, Cond.selects RX4 yX4_needParts yX4_needParts, Cond.code yX4_needParts cX4_needParts 1 none, Cond.classLink RX4 47 "java/lang/IllegalStateException", Cond.initialized "java/lang/IllegalStateException", Cond.fieldLink RX4 12 "AssemblyPlanner" "product" "LAssemblyPlanner$Product;", Cond.methodLink RX4 43 yX3_count, Cond.instanceMethod yX3_count, Cond.selects RX3 yX3_count yX3_count, Cond.initialized RX3, Cond.code yX3_count cX3_count 1 (some .int), Cond.fieldLink RX3 21 "AssemblyPlanner$Product" "count" "I", Cond.methodLink RX4 134 yX1_possible, Cond.instanceMethod yX1_possible, Cond.selects RX1 yX1_possible yX1_possible, Cond.initialized RX1]
def wsL_orders_r2 : List Cond := [Cond.code yX1_possible cX1_possible 1 (some .int), Cond.fieldLink RX1 19 "AssemblyPlanner$Ordering" "orders" "[I", Cond.methodLink RX1 36 yX1_find, Cond.instanceMethod yX1_find, Cond.selects RX1 yX1_find yX1_find, Cond.code yX1_find cX1_find 3 none, Cond.fieldLink RX1 32 "AssemblyPlanner$Ordering" "known" "Z", Cond.fieldLink RX1 28 "AssemblyPlanner$Ordering" "product" "LAssemblyPlanner$Product;", Cond.fieldLink RX1 9 "AssemblyPlanner$Ordering" "sound" "[Z", Cond.fieldLink RX1 15 "AssemblyPlanner$Ordering" "nexts" "[I", Cond.fieldLink RX1 22 "AssemblyPlanner$Ordering" "changes" "[I", Cond.fieldLink RX1 39 "AssemblyPlanner$Ordering" "fewest" "I", Cond.methodLink RX1 57 yX3_all, Cond.instanceMethod yX3_all, Cond.selects RX3 yX3_all yX3_all, Cond.code yX3_all cX3_all 1 (some .int), Cond.methodLink RX1 60 yX3_sound, Cond.instanceMethod yX3_sound, Cond.selects RX3 yX3_sound yX3_sound, Cond.code yX3_sound cX3_sound 2 (some .boolean), Cond.fieldLink RX3 41 "AssemblyPlanner$Product" "steadyAsked" "Z", Cond.methodLink RX3 49 yX3_connected, Cond.instanceMethod yX3_connected, Cond.selects RX3 yX3_connected yX3_connected]
def wsL_orders_r3 : List Cond := [Cond.code yX3_connected cX3_connected 3 (some .boolean), Cond.fieldLink RX3 15 "AssemblyPlanner$Product" "contacts" "[I", Cond.methodLink RX3 45 yX3_reached, Cond.static yX3_reached, Cond.code yX3_reached cX3_reached 7 (some .int), Cond.methodLink RX3 53 yX3_steady, Cond.instanceMethod yX3_steady, Cond.selects RX3 yX3_steady yX3_steady, Cond.code yX3_steady cX3_steady 2 (some .boolean), Cond.fieldLink RX3 18 "AssemblyPlanner$Product" "hinderers" "[I", Cond.fieldLink RX3 38 "AssemblyPlanner$Product" "base" "I", Cond.methodLink RX1 63 yX1_nextsOf, Cond.instanceMethod yX1_nextsOf, Cond.selects RX1 yX1_nextsOf yX1_nextsOf, Cond.code yX1_nextsOf cX1_nextsOf 5 (some .int), Cond.methodLink RX1 51 yX3_count, Cond.methodLink RX1 76 yX3_freeDirections, Cond.instanceMethod yX3_freeDirections, Cond.selects RX3 yX3_freeDirections yX3_freeDirections, Cond.code yX3_freeDirections cX3_freeDirections 5 (some .int), Cond.methodLink RX1 66 yX1_ordersFrom, Cond.instanceMethod yX1_ordersFrom, Cond.selects RX1 yX1_ordersFrom yX1_ordersFrom, Cond.code yX1_ordersFrom cX1_ordersFrom 4 (some .int)]
def wsL_orders_r4 : List Cond := [Cond.methodLink RX1 69 yX1_fewestFrom, Cond.instanceMethod yX1_fewestFrom, Cond.selects RX1 yX1_fewestFrom yX1_fewestFrom, Cond.code yX1_fewestFrom cX1_fewestFrom 5 (some .int), Cond.methodLink RX1 83 Lib.Math.min.name, Cond.static Lib.Math.min.name, Cond.initialized "java/lang/Math", Cond.code Lib.Math.min.name Lib.Math.min.code 2 (some .int), Cond.methodLink RX1 79 yX1_changesWith, Cond.instanceMethod yX1_changesWith, Cond.selects RX1 yX1_changesWith yX1_changesWith, Cond.code yX1_changesWith cX1_changesWith 5 (some .int), Cond.methodLink RX1 88 yX3_tool, Cond.instanceMethod yX3_tool, Cond.selects RX3 yX3_tool yX3_tool, Cond.code yX3_tool cX3_tool 2 (some .int), Cond.fieldLink RX3 9 "AssemblyPlanner$Product" "tools" "[I", Cond.methodLink RX1 91 yX1_change, Cond.static yX1_change, Cond.code yX1_change cX1_change 2 (some .int), Cond.methodLink RX1 73 yX1_findBest, Cond.instanceMethod yX1_findBest, Cond.selects RX1 yX1_findBest yX1_findBest, Cond.code yX1_findBest cX1_findBest 6 none]
def wsL_orders_r5 : List Cond := [Cond.fieldLink RX1 25 "AssemblyPlanner$Ordering" "best" "[I", Cond.methodLink RX1 94 yX1_leastNext, Cond.instanceMethod yX1_leastNext, Cond.selects RX1 yX1_leastNext yX1_leastNext, Cond.code yX1_leastNext cX1_leastNext 5 (some .int)]
def wsL_orders : List Cond := .codeWith yL_orders cL_orders 3 (some .int) [(0, 8, 11, 15)] :: ((wsL_orders_r1 ++ (wsL_orders_r2 ++ (wsL_orders_r3 ++ (wsL_orders_r4 ++ wsL_orders_r5)))) ++ wsX40 ++ wsX30 ++ wsX10 ++ (vx_atS RX4 51 "java/lang/IllegalStateException" ["java/lang/RuntimeException", "java/lang/Exception"]).filter goodWord)
def wsL_fewestChanges_r1 : List Cond := [Cond.classLink RL 15 "java/lang/IllegalStateException", Cond.methodLink RL 70 yX4_fewestChanges, Cond.instanceMethod yX4_fewestChanges, Cond.selects RX4 yX4_fewestChanges yX4_fewestChanges, Cond.initialized RX4, Cond.code yX4_fewestChanges cX4_fewestChanges 1 (some .int), Cond.fieldLink RX4 28 "AssemblyPlanner" "ordering" "LAssemblyPlanner$Ordering;", Cond.methodLink RX4 122 yX4_needParts, Cond.instanceMethod yX4_needParts, Cond.selects RX4 yX4_needParts yX4_needParts, Cond.code yX4_needParts cX4_needParts 1 none, Cond.classLink RX4 47 "java/lang/IllegalStateException", Cond.initialized "java/lang/IllegalStateException", Cond.fieldLink RX4 12 "AssemblyPlanner" "product" "LAssemblyPlanner$Product;", Cond.methodLink RX4 43 yX3_count, Cond.instanceMethod yX3_count, Cond.selects RX3 yX3_count yX3_count, Cond.initialized RX3, Cond.code yX3_count cX3_count 1 (some .int), Cond.fieldLink RX3 21 "AssemblyPlanner$Product" "count" "I", Cond.methodLink RX4 137 yX1_fewestBySets, Cond.instanceMethod yX1_fewestBySets, Cond.selects RX1 yX1_fewestBySets yX1_fewestBySets, Cond.initialized RX1]
def wsL_fewestChanges_r2 : List Cond := [Cond.code yX1_fewestBySets cX1_fewestBySets 1 (some .int), Cond.fieldLink RX1 39 "AssemblyPlanner$Ordering" "fewest" "I", Cond.methodLink RX1 36 yX1_find, Cond.instanceMethod yX1_find, Cond.selects RX1 yX1_find yX1_find, Cond.code yX1_find cX1_find 3 none, Cond.fieldLink RX1 32 "AssemblyPlanner$Ordering" "known" "Z", Cond.fieldLink RX1 28 "AssemblyPlanner$Ordering" "product" "LAssemblyPlanner$Product;", Cond.fieldLink RX1 9 "AssemblyPlanner$Ordering" "sound" "[Z", Cond.fieldLink RX1 15 "AssemblyPlanner$Ordering" "nexts" "[I", Cond.fieldLink RX1 19 "AssemblyPlanner$Ordering" "orders" "[I", Cond.fieldLink RX1 22 "AssemblyPlanner$Ordering" "changes" "[I", Cond.methodLink RX1 57 yX3_all, Cond.instanceMethod yX3_all, Cond.selects RX3 yX3_all yX3_all, Cond.code yX3_all cX3_all 1 (some .int), Cond.methodLink RX1 60 yX3_sound, Cond.instanceMethod yX3_sound, Cond.selects RX3 yX3_sound yX3_sound, Cond.code yX3_sound cX3_sound 2 (some .boolean), Cond.fieldLink RX3 41 "AssemblyPlanner$Product" "steadyAsked" "Z", Cond.methodLink RX3 49 yX3_connected, Cond.instanceMethod yX3_connected, Cond.selects RX3 yX3_connected yX3_connected]
def wsL_fewestChanges_r3 : List Cond := [Cond.code yX3_connected cX3_connected 3 (some .boolean), Cond.fieldLink RX3 15 "AssemblyPlanner$Product" "contacts" "[I", Cond.methodLink RX3 45 yX3_reached, Cond.static yX3_reached, Cond.code yX3_reached cX3_reached 7 (some .int), Cond.methodLink RX3 53 yX3_steady, Cond.instanceMethod yX3_steady, Cond.selects RX3 yX3_steady yX3_steady, Cond.code yX3_steady cX3_steady 2 (some .boolean), Cond.fieldLink RX3 18 "AssemblyPlanner$Product" "hinderers" "[I", Cond.fieldLink RX3 38 "AssemblyPlanner$Product" "base" "I", Cond.methodLink RX1 63 yX1_nextsOf, Cond.instanceMethod yX1_nextsOf, Cond.selects RX1 yX1_nextsOf yX1_nextsOf, Cond.code yX1_nextsOf cX1_nextsOf 5 (some .int), Cond.methodLink RX1 51 yX3_count, Cond.methodLink RX1 76 yX3_freeDirections, Cond.instanceMethod yX3_freeDirections, Cond.selects RX3 yX3_freeDirections yX3_freeDirections, Cond.code yX3_freeDirections cX3_freeDirections 5 (some .int), Cond.methodLink RX1 66 yX1_ordersFrom, Cond.instanceMethod yX1_ordersFrom, Cond.selects RX1 yX1_ordersFrom yX1_ordersFrom, Cond.code yX1_ordersFrom cX1_ordersFrom 4 (some .int)]
def wsL_fewestChanges_r4 : List Cond := [Cond.methodLink RX1 69 yX1_fewestFrom, Cond.instanceMethod yX1_fewestFrom, Cond.selects RX1 yX1_fewestFrom yX1_fewestFrom, Cond.code yX1_fewestFrom cX1_fewestFrom 5 (some .int), Cond.methodLink RX1 83 Lib.Math.min.name, Cond.static Lib.Math.min.name, Cond.initialized "java/lang/Math", Cond.code Lib.Math.min.name Lib.Math.min.code 2 (some .int), Cond.methodLink RX1 79 yX1_changesWith, Cond.instanceMethod yX1_changesWith, Cond.selects RX1 yX1_changesWith yX1_changesWith, Cond.code yX1_changesWith cX1_changesWith 5 (some .int), Cond.methodLink RX1 88 yX3_tool, Cond.instanceMethod yX3_tool, Cond.selects RX3 yX3_tool yX3_tool, Cond.code yX3_tool cX3_tool 2 (some .int), Cond.fieldLink RX3 9 "AssemblyPlanner$Product" "tools" "[I", Cond.methodLink RX1 91 yX1_change, Cond.static yX1_change, Cond.code yX1_change cX1_change 2 (some .int), Cond.methodLink RX1 73 yX1_findBest, Cond.instanceMethod yX1_findBest, Cond.selects RX1 yX1_findBest yX1_findBest, Cond.code yX1_findBest cX1_findBest 6 none]
def wsL_fewestChanges_r5 : List Cond := [Cond.fieldLink RX1 25 "AssemblyPlanner$Ordering" "best" "[I", Cond.methodLink RX1 94 yX1_leastNext, Cond.instanceMethod yX1_leastNext, Cond.selects RX1 yX1_leastNext yX1_leastNext, Cond.code yX1_leastNext cX1_leastNext 5 (some .int), Cond.methodLink RX1 43 yX1_orNone, Cond.static yX1_orNone, Cond.code yX1_orNone cX1_orNone 1 (some .int)]
def wsL_fewestChanges : List Cond := .codeWith yL_fewestChanges cL_fewestChanges 3 (some .int) [(0, 8, 11, 15)] :: ((wsL_fewestChanges_r1 ++ (wsL_fewestChanges_r2 ++ (wsL_fewestChanges_r3 ++ (wsL_fewestChanges_r4 ++ wsL_fewestChanges_r5)))) ++ wsX40 ++ wsX30 ++ wsX10 ++ (vx_atS RX4 51 "java/lang/IllegalStateException" ["java/lang/RuntimeException", "java/lang/Exception"]).filter goodWord)
def wsL_fewestByListing_r1 : List Cond := [Cond.classLink RL 15 "java/lang/IllegalStateException", Cond.methodLink RL 73 yX4_fewestByListing, Cond.instanceMethod yX4_fewestByListing, Cond.selects RX4 yX4_fewestByListing yX4_fewestByListing, Cond.initialized RX4, Cond.code yX4_fewestByListing cX4_fewestByListing 1 (some .int), Cond.classLink RX4 47 "java/lang/IllegalStateException", Cond.initialized "java/lang/IllegalStateException", Cond.fieldLink RX4 12 "AssemblyPlanner" "product" "LAssemblyPlanner$Product;", Cond.fieldLink RX4 28 "AssemblyPlanner" "ordering" "LAssemblyPlanner$Ordering;", Cond.methodLink RX4 122 yX4_needParts, Cond.instanceMethod yX4_needParts, Cond.selects RX4 yX4_needParts yX4_needParts, Cond.code yX4_needParts cX4_needParts 1 none, Cond.methodLink RX4 43 yX3_count, Cond.instanceMethod yX3_count, Cond.selects RX3 yX3_count yX3_count, Cond.initialized RX3, Cond.code yX3_count cX3_count 1 (some .int), Cond.fieldLink RX3 21 "AssemblyPlanner$Product" "count" "I", Cond.methodLink RX4 142 yX1_fewestListed, Cond.instanceMethod yX1_fewestListed, Cond.selects RX1 yX1_fewestListed yX1_fewestListed, Cond.initialized RX1]
def wsL_fewestByListing_r2 : List Cond := [Cond.code yX1_fewestListed cX1_fewestListed 1 (some .int), Cond.methodLink RX1 36 yX1_find, Cond.instanceMethod yX1_find, Cond.selects RX1 yX1_find yX1_find, Cond.code yX1_find cX1_find 3 none, Cond.fieldLink RX1 32 "AssemblyPlanner$Ordering" "known" "Z", Cond.fieldLink RX1 28 "AssemblyPlanner$Ordering" "product" "LAssemblyPlanner$Product;", Cond.fieldLink RX1 9 "AssemblyPlanner$Ordering" "sound" "[Z", Cond.fieldLink RX1 15 "AssemblyPlanner$Ordering" "nexts" "[I", Cond.fieldLink RX1 19 "AssemblyPlanner$Ordering" "orders" "[I", Cond.fieldLink RX1 22 "AssemblyPlanner$Ordering" "changes" "[I", Cond.fieldLink RX1 39 "AssemblyPlanner$Ordering" "fewest" "I", Cond.methodLink RX1 57 yX3_all, Cond.instanceMethod yX3_all, Cond.selects RX3 yX3_all yX3_all, Cond.code yX3_all cX3_all 1 (some .int), Cond.methodLink RX1 60 yX3_sound, Cond.instanceMethod yX3_sound, Cond.selects RX3 yX3_sound yX3_sound, Cond.code yX3_sound cX3_sound 2 (some .boolean), Cond.fieldLink RX3 41 "AssemblyPlanner$Product" "steadyAsked" "Z", Cond.methodLink RX3 49 yX3_connected, Cond.instanceMethod yX3_connected, Cond.selects RX3 yX3_connected yX3_connected]
def wsL_fewestByListing_r3 : List Cond := [Cond.code yX3_connected cX3_connected 3 (some .boolean), Cond.fieldLink RX3 15 "AssemblyPlanner$Product" "contacts" "[I", Cond.methodLink RX3 45 yX3_reached, Cond.static yX3_reached, Cond.code yX3_reached cX3_reached 7 (some .int), Cond.methodLink RX3 53 yX3_steady, Cond.instanceMethod yX3_steady, Cond.selects RX3 yX3_steady yX3_steady, Cond.code yX3_steady cX3_steady 2 (some .boolean), Cond.fieldLink RX3 18 "AssemblyPlanner$Product" "hinderers" "[I", Cond.fieldLink RX3 38 "AssemblyPlanner$Product" "base" "I", Cond.methodLink RX1 63 yX1_nextsOf, Cond.instanceMethod yX1_nextsOf, Cond.selects RX1 yX1_nextsOf yX1_nextsOf, Cond.code yX1_nextsOf cX1_nextsOf 5 (some .int), Cond.methodLink RX1 51 yX3_count, Cond.methodLink RX1 76 yX3_freeDirections, Cond.instanceMethod yX3_freeDirections, Cond.selects RX3 yX3_freeDirections yX3_freeDirections, Cond.code yX3_freeDirections cX3_freeDirections 5 (some .int), Cond.methodLink RX1 66 yX1_ordersFrom, Cond.instanceMethod yX1_ordersFrom, Cond.selects RX1 yX1_ordersFrom yX1_ordersFrom, Cond.code yX1_ordersFrom cX1_ordersFrom 4 (some .int)]
def wsL_fewestByListing_r4 : List Cond := [Cond.methodLink RX1 69 yX1_fewestFrom, Cond.instanceMethod yX1_fewestFrom, Cond.selects RX1 yX1_fewestFrom yX1_fewestFrom, Cond.code yX1_fewestFrom cX1_fewestFrom 5 (some .int), Cond.methodLink RX1 83 Lib.Math.min.name, Cond.static Lib.Math.min.name, Cond.initialized "java/lang/Math", Cond.code Lib.Math.min.name Lib.Math.min.code 2 (some .int), Cond.methodLink RX1 79 yX1_changesWith, Cond.instanceMethod yX1_changesWith, Cond.selects RX1 yX1_changesWith yX1_changesWith, Cond.code yX1_changesWith cX1_changesWith 5 (some .int), Cond.methodLink RX1 88 yX3_tool, Cond.instanceMethod yX3_tool, Cond.selects RX3 yX3_tool yX3_tool, Cond.code yX3_tool cX3_tool 2 (some .int), Cond.fieldLink RX3 9 "AssemblyPlanner$Product" "tools" "[I", Cond.methodLink RX1 91 yX1_change, Cond.static yX1_change, Cond.code yX1_change cX1_change 2 (some .int), Cond.methodLink RX1 73 yX1_findBest, Cond.instanceMethod yX1_findBest, Cond.selects RX1 yX1_findBest yX1_findBest, Cond.code yX1_findBest cX1_findBest 6 none]
def wsL_fewestByListing_r5 : List Cond := [Cond.fieldLink RX1 25 "AssemblyPlanner$Ordering" "best" "[I", Cond.methodLink RX1 94 yX1_leastNext, Cond.instanceMethod yX1_leastNext, Cond.selects RX1 yX1_leastNext yX1_leastNext, Cond.code yX1_leastNext cX1_leastNext 5 (some .int), Cond.methodLink RX1 47 yX1_listed, Cond.static yX1_listed, Cond.code yX1_listed cX1_listed 8 (some .int), Cond.methodLink RX1 43 yX1_orNone, Cond.static yX1_orNone, Cond.code yX1_orNone cX1_orNone 1 (some .int)]
def wsL_fewestByListing : List Cond := .codeWith yL_fewestByListing cL_fewestByListing 3 (some .int) [(0, 8, 11, 15)] :: ((wsL_fewestByListing_r1 ++ (wsL_fewestByListing_r2 ++ (wsL_fewestByListing_r3 ++ (wsL_fewestByListing_r4 ++ wsL_fewestByListing_r5)))) ++ wsX40 ++ wsX30 ++ wsX10 ++ (vx_atS RX4 51 "java/lang/IllegalStateException" ["java/lang/RuntimeException", "java/lang/Exception"]).filter goodWord)
def wsL_orderAt_r1 : List Cond := [Cond.classLink RL 21 "java/lang/IndexOutOfBoundsException", Cond.methodLink RL 76 yX4_orderAt, Cond.instanceMethod yX4_orderAt, Cond.selects RX4 yX4_orderAt yX4_orderAt, Cond.initialized RX4, Cond.code yX4_orderAt cX4_orderAt 3 (some .int), Cond.classLink RX4 148 "java/lang/IndexOutOfBoundsException", Cond.initialized "java/lang/IndexOutOfBoundsException", Cond.fieldLink RX4 28 "AssemblyPlanner" "ordering" "LAssemblyPlanner$Ordering;", Cond.methodLink RX4 145 yX1_bestAt, Cond.instanceMethod yX1_bestAt, Cond.selects RX1 yX1_bestAt yX1_bestAt, Cond.initialized RX1, Cond.code yX1_bestAt cX1_bestAt 2 (some .int), Cond.fieldLink RX1 28 "AssemblyPlanner$Ordering" "product" "LAssemblyPlanner$Product;", Cond.fieldLink RX1 39 "AssemblyPlanner$Ordering" "fewest" "I", Cond.fieldLink RX1 25 "AssemblyPlanner$Ordering" "best" "[I", Cond.methodLink RX1 51 yX3_count, Cond.instanceMethod yX3_count, Cond.selects RX3 yX3_count yX3_count, Cond.initialized RX3, Cond.code yX3_count cX3_count 1 (some .int), Cond.fieldLink RX3 21 "AssemblyPlanner$Product" "count" "I", Cond.methodLink RX1 36 yX1_find]
def wsL_orderAt_r2 : List Cond := [Cond.instanceMethod yX1_find, Cond.selects RX1 yX1_find yX1_find, Cond.code yX1_find cX1_find 3 none, Cond.fieldLink RX1 32 "AssemblyPlanner$Ordering" "known" "Z", Cond.fieldLink RX1 9 "AssemblyPlanner$Ordering" "sound" "[Z", Cond.fieldLink RX1 15 "AssemblyPlanner$Ordering" "nexts" "[I", Cond.fieldLink RX1 19 "AssemblyPlanner$Ordering" "orders" "[I", Cond.fieldLink RX1 22 "AssemblyPlanner$Ordering" "changes" "[I", Cond.methodLink RX1 57 yX3_all, Cond.instanceMethod yX3_all, Cond.selects RX3 yX3_all yX3_all, Cond.code yX3_all cX3_all 1 (some .int), Cond.methodLink RX1 60 yX3_sound, Cond.instanceMethod yX3_sound, Cond.selects RX3 yX3_sound yX3_sound, Cond.code yX3_sound cX3_sound 2 (some .boolean), Cond.fieldLink RX3 41 "AssemblyPlanner$Product" "steadyAsked" "Z", Cond.methodLink RX3 49 yX3_connected, Cond.instanceMethod yX3_connected, Cond.selects RX3 yX3_connected yX3_connected, Cond.code yX3_connected cX3_connected 3 (some .boolean), Cond.fieldLink RX3 15 "AssemblyPlanner$Product" "contacts" "[I", Cond.methodLink RX3 45 yX3_reached, Cond.static yX3_reached]
def wsL_orderAt_r3 : List Cond := [Cond.code yX3_reached cX3_reached 7 (some .int), Cond.methodLink RX3 53 yX3_steady, Cond.instanceMethod yX3_steady, Cond.selects RX3 yX3_steady yX3_steady, Cond.code yX3_steady cX3_steady 2 (some .boolean), Cond.fieldLink RX3 18 "AssemblyPlanner$Product" "hinderers" "[I", Cond.fieldLink RX3 38 "AssemblyPlanner$Product" "base" "I", Cond.methodLink RX1 63 yX1_nextsOf, Cond.instanceMethod yX1_nextsOf, Cond.selects RX1 yX1_nextsOf yX1_nextsOf, Cond.code yX1_nextsOf cX1_nextsOf 5 (some .int), Cond.methodLink RX1 76 yX3_freeDirections, Cond.instanceMethod yX3_freeDirections, Cond.selects RX3 yX3_freeDirections yX3_freeDirections, Cond.code yX3_freeDirections cX3_freeDirections 5 (some .int), Cond.methodLink RX1 66 yX1_ordersFrom, Cond.instanceMethod yX1_ordersFrom, Cond.selects RX1 yX1_ordersFrom yX1_ordersFrom, Cond.code yX1_ordersFrom cX1_ordersFrom 4 (some .int), Cond.methodLink RX1 69 yX1_fewestFrom, Cond.instanceMethod yX1_fewestFrom, Cond.selects RX1 yX1_fewestFrom yX1_fewestFrom, Cond.code yX1_fewestFrom cX1_fewestFrom 5 (some .int), Cond.methodLink RX1 83 Lib.Math.min.name]
def wsL_orderAt_r4 : List Cond := [Cond.static Lib.Math.min.name, Cond.initialized "java/lang/Math", Cond.code Lib.Math.min.name Lib.Math.min.code 2 (some .int), Cond.methodLink RX1 79 yX1_changesWith, Cond.instanceMethod yX1_changesWith, Cond.selects RX1 yX1_changesWith yX1_changesWith, Cond.code yX1_changesWith cX1_changesWith 5 (some .int), Cond.methodLink RX1 88 yX3_tool, Cond.instanceMethod yX3_tool, Cond.selects RX3 yX3_tool yX3_tool, Cond.code yX3_tool cX3_tool 2 (some .int), Cond.fieldLink RX3 9 "AssemblyPlanner$Product" "tools" "[I", Cond.methodLink RX1 91 yX1_change, Cond.static yX1_change, Cond.code yX1_change cX1_change 2 (some .int), Cond.methodLink RX1 73 yX1_findBest, Cond.instanceMethod yX1_findBest, Cond.selects RX1 yX1_findBest yX1_findBest, Cond.code yX1_findBest cX1_findBest 6 none, Cond.methodLink RX1 94 yX1_leastNext, Cond.instanceMethod yX1_leastNext, Cond.selects RX1 yX1_leastNext yX1_leastNext, Cond.code yX1_leastNext cX1_leastNext 5 (some .int)]
def wsL_orderAt : List Cond := .codeWith yL_orderAt cL_orderAt 4 (some .int) [(0, 9, 12, 21)] :: ((wsL_orderAt_r1 ++ (wsL_orderAt_r2 ++ (wsL_orderAt_r3 ++ wsL_orderAt_r4))) ++ wsX40 ++ wsX10 ++ wsX30 ++ (vx_atS RX4 152 "java/lang/IndexOutOfBoundsException" ["java/lang/RuntimeException", "java/lang/Exception"]).filter goodWord)
def wsL_setJams_r1 : List Cond := [Cond.classLink RL 21 "java/lang/IndexOutOfBoundsException", Cond.classLink RL 13 "java/lang/IllegalArgumentException", Cond.methodLink RL 79 yX4_setJams, Cond.instanceMethod yX4_setJams, Cond.selects RX4 yX4_setJams yX4_setJams, Cond.initialized RX4, Cond.code yX4_setJams cX4_setJams 3 (some .int), Cond.classLink RX4 153 "java/lang/IllegalArgumentException", Cond.initialized "java/lang/IllegalArgumentException", Cond.fieldLink RX4 35 "AssemblyPlanner" "cell" "LAssemblyPlanner$Cell;", Cond.methodLink RX4 61 yX4_needPart, Cond.instanceMethod yX4_needPart, Cond.selects RX4 yX4_needPart yX4_needPart, Cond.code yX4_needPart cX4_needPart 2 none, Cond.classLink RX4 148 "java/lang/IndexOutOfBoundsException", Cond.initialized "java/lang/IndexOutOfBoundsException", Cond.fieldLink RX4 12 "AssemblyPlanner" "product" "LAssemblyPlanner$Product;", Cond.methodLink RX4 43 yX3_count, Cond.instanceMethod yX3_count, Cond.selects RX3 yX3_count yX3_count, Cond.initialized RX3, Cond.code yX3_count cX3_count 1 (some .int), Cond.fieldLink RX3 21 "AssemblyPlanner$Product" "count" "I", Cond.methodLink RX4 158 yX0_changeJams]
def wsL_setJams_r2 : List Cond := [Cond.instanceMethod yX0_changeJams, Cond.selects RX0 yX0_changeJams yX0_changeJams, Cond.initialized RX0, Cond.code yX0_changeJams cX0_changeJams 4 (some .int), Cond.fieldLink RX0 9 "AssemblyPlanner$Cell" "jamsToCome" "[I"]
def wsL_setJams : List Cond := .codeWith yL_setJams cL_setJams 5 (some .int) [(0, 10, 13, 21), (0, 10, 17, 13)] :: ((wsL_setJams_r1 ++ wsL_setJams_r2) ++ wsX40 ++ wsX30 ++ wsX00 ++ (vx_atS RX4 157 "java/lang/IllegalArgumentException" ["java/lang/RuntimeException", "java/lang/Exception"]).filter goodWord ++ (vx_atS RX4 152 "java/lang/IndexOutOfBoundsException" ["java/lang/RuntimeException", "java/lang/Exception"]).filter goodWord)
def wsL_begin_r1 : List Cond := [Cond.classLink RL 15 "java/lang/IllegalStateException", Cond.methodLink RL 82 yX4_begin, Cond.instanceMethod yX4_begin, Cond.selects RX4 yX4_begin yX4_begin, Cond.initialized RX4, Cond.code yX4_begin cX4_begin 1 (some .int), Cond.classLink RX4 47 "java/lang/IllegalStateException", Cond.initialized "java/lang/IllegalStateException", Cond.fieldLink RX4 28 "AssemblyPlanner" "ordering" "LAssemblyPlanner$Ordering;", Cond.fieldLink RX4 35 "AssemblyPlanner" "cell" "LAssemblyPlanner$Cell;", Cond.fieldLink RX4 12 "AssemblyPlanner" "product" "LAssemblyPlanner$Product;", Cond.methodLink RX4 122 yX4_needParts, Cond.instanceMethod yX4_needParts, Cond.selects RX4 yX4_needParts yX4_needParts, Cond.code yX4_needParts cX4_needParts 1 none, Cond.methodLink RX4 43 yX3_count, Cond.instanceMethod yX3_count, Cond.selects RX3 yX3_count yX3_count, Cond.initialized RX3, Cond.code yX3_count cX3_count 1 (some .int), Cond.fieldLink RX3 21 "AssemblyPlanner$Product" "count" "I", Cond.methodLink RX4 137 yX1_fewestBySets, Cond.instanceMethod yX1_fewestBySets, Cond.selects RX1 yX1_fewestBySets yX1_fewestBySets]
def wsL_begin_r2 : List Cond := [Cond.initialized RX1, Cond.code yX1_fewestBySets cX1_fewestBySets 1 (some .int), Cond.fieldLink RX1 39 "AssemblyPlanner$Ordering" "fewest" "I", Cond.methodLink RX1 36 yX1_find, Cond.instanceMethod yX1_find, Cond.selects RX1 yX1_find yX1_find, Cond.code yX1_find cX1_find 3 none, Cond.fieldLink RX1 32 "AssemblyPlanner$Ordering" "known" "Z", Cond.fieldLink RX1 28 "AssemblyPlanner$Ordering" "product" "LAssemblyPlanner$Product;", Cond.fieldLink RX1 9 "AssemblyPlanner$Ordering" "sound" "[Z", Cond.fieldLink RX1 15 "AssemblyPlanner$Ordering" "nexts" "[I", Cond.fieldLink RX1 19 "AssemblyPlanner$Ordering" "orders" "[I", Cond.fieldLink RX1 22 "AssemblyPlanner$Ordering" "changes" "[I", Cond.methodLink RX1 57 yX3_all, Cond.instanceMethod yX3_all, Cond.selects RX3 yX3_all yX3_all, Cond.code yX3_all cX3_all 1 (some .int), Cond.methodLink RX1 60 yX3_sound, Cond.instanceMethod yX3_sound, Cond.selects RX3 yX3_sound yX3_sound, Cond.code yX3_sound cX3_sound 2 (some .boolean), Cond.fieldLink RX3 41 "AssemblyPlanner$Product" "steadyAsked" "Z", Cond.methodLink RX3 49 yX3_connected, Cond.instanceMethod yX3_connected]
def wsL_begin_r3 : List Cond := [Cond.selects RX3 yX3_connected yX3_connected, Cond.code yX3_connected cX3_connected 3 (some .boolean), Cond.fieldLink RX3 15 "AssemblyPlanner$Product" "contacts" "[I", Cond.methodLink RX3 45 yX3_reached, Cond.static yX3_reached, Cond.code yX3_reached cX3_reached 7 (some .int), Cond.methodLink RX3 53 yX3_steady, Cond.instanceMethod yX3_steady, Cond.selects RX3 yX3_steady yX3_steady, Cond.code yX3_steady cX3_steady 2 (some .boolean), Cond.fieldLink RX3 18 "AssemblyPlanner$Product" "hinderers" "[I", Cond.fieldLink RX3 38 "AssemblyPlanner$Product" "base" "I", Cond.methodLink RX1 63 yX1_nextsOf, Cond.instanceMethod yX1_nextsOf, Cond.selects RX1 yX1_nextsOf yX1_nextsOf, Cond.code yX1_nextsOf cX1_nextsOf 5 (some .int), Cond.methodLink RX1 51 yX3_count, Cond.methodLink RX1 76 yX3_freeDirections, Cond.instanceMethod yX3_freeDirections, Cond.selects RX3 yX3_freeDirections yX3_freeDirections, Cond.code yX3_freeDirections cX3_freeDirections 5 (some .int), Cond.methodLink RX1 66 yX1_ordersFrom, Cond.instanceMethod yX1_ordersFrom, Cond.selects RX1 yX1_ordersFrom yX1_ordersFrom]
def wsL_begin_r4 : List Cond := [Cond.code yX1_ordersFrom cX1_ordersFrom 4 (some .int), Cond.methodLink RX1 69 yX1_fewestFrom, Cond.instanceMethod yX1_fewestFrom, Cond.selects RX1 yX1_fewestFrom yX1_fewestFrom, Cond.code yX1_fewestFrom cX1_fewestFrom 5 (some .int), Cond.methodLink RX1 83 Lib.Math.min.name, Cond.static Lib.Math.min.name, Cond.initialized "java/lang/Math", Cond.code Lib.Math.min.name Lib.Math.min.code 2 (some .int), Cond.methodLink RX1 79 yX1_changesWith, Cond.instanceMethod yX1_changesWith, Cond.selects RX1 yX1_changesWith yX1_changesWith, Cond.code yX1_changesWith cX1_changesWith 5 (some .int), Cond.methodLink RX1 88 yX3_tool, Cond.instanceMethod yX3_tool, Cond.selects RX3 yX3_tool yX3_tool, Cond.code yX3_tool cX3_tool 2 (some .int), Cond.fieldLink RX3 9 "AssemblyPlanner$Product" "tools" "[I", Cond.methodLink RX1 91 yX1_change, Cond.static yX1_change, Cond.code yX1_change cX1_change 2 (some .int), Cond.methodLink RX1 73 yX1_findBest, Cond.instanceMethod yX1_findBest, Cond.selects RX1 yX1_findBest yX1_findBest]
def wsL_begin_r5 : List Cond := [Cond.code yX1_findBest cX1_findBest 6 none, Cond.fieldLink RX1 25 "AssemblyPlanner$Ordering" "best" "[I", Cond.methodLink RX1 94 yX1_leastNext, Cond.instanceMethod yX1_leastNext, Cond.selects RX1 yX1_leastNext yX1_leastNext, Cond.code yX1_leastNext cX1_leastNext 5 (some .int), Cond.methodLink RX1 43 yX1_orNone, Cond.static yX1_orNone, Cond.code yX1_orNone cX1_orNone 1 (some .int), Cond.methodLink RX4 163 yX0_start, Cond.instanceMethod yX0_start, Cond.selects RX0 yX0_start yX0_start, Cond.initialized RX0, Cond.code yX0_start cX0_start 1 none, Cond.fieldLink RX0 29 "AssemblyPlanner$Cell" "begun" "Z", Cond.methodLink RX0 26 yX0_halt, Cond.instanceMethod yX0_halt, Cond.selects RX0 yX0_halt yX0_halt, Cond.code yX0_halt cX0_halt 2 none, Cond.fieldLink RX0 33 "AssemblyPlanner$Cell" "placesIn" "I", Cond.fieldLink RX0 36 "AssemblyPlanner$Cell" "in" "I", Cond.fieldLink RX0 39 "AssemblyPlanner$Cell" "time" "I", Cond.fieldLink RX0 18 "AssemblyPlanner$Cell" "tool" "I", Cond.fieldLink RX0 15 "AssemblyPlanner$Cell" "jamsSinceStart" "[I"]
def wsL_begin : List Cond := .codeWith yL_begin cL_begin 3 (some .int) [(0, 8, 11, 15)] :: ((wsL_begin_r1 ++ (wsL_begin_r2 ++ (wsL_begin_r3 ++ (wsL_begin_r4 ++ wsL_begin_r5)))) ++ wsX40 ++ wsX30 ++ wsX10 ++ wsX00 ++ (vx_atS RX4 51 "java/lang/IllegalStateException" ["java/lang/RuntimeException", "java/lang/Exception"]).filter goodWord)
def wsL_step_r1 : List Cond := [Cond.classLink RL 15 "java/lang/IllegalStateException", Cond.methodLink RL 85 yX4_step, Cond.instanceMethod yX4_step, Cond.selects RX4 yX4_step yX4_step, Cond.initialized RX4, Cond.code yX4_step cX4_step 2 (some .int), Cond.classLink RX4 47 "java/lang/IllegalStateException", Cond.initialized "java/lang/IllegalStateException", Cond.fieldLink RX4 28 "AssemblyPlanner" "ordering" "LAssemblyPlanner$Ordering;", Cond.fieldLink RX4 35 "AssemblyPlanner" "cell" "LAssemblyPlanner$Cell;", Cond.methodLink RX4 166 yX0_nextPlace, Cond.instanceMethod yX0_nextPlace, Cond.selects RX0 yX0_nextPlace yX0_nextPlace, Cond.initialized RX0, Cond.code yX0_nextPlace cX0_nextPlace 1 (some .int), Cond.fieldLink RX0 29 "AssemblyPlanner$Cell" "begun" "Z", Cond.fieldLink RX0 33 "AssemblyPlanner$Cell" "placesIn" "I", Cond.methodLink RX4 145 yX1_bestAt, Cond.instanceMethod yX1_bestAt, Cond.selects RX1 yX1_bestAt yX1_bestAt, Cond.initialized RX1, Cond.code yX1_bestAt cX1_bestAt 2 (some .int), Cond.fieldLink RX1 28 "AssemblyPlanner$Ordering" "product" "LAssemblyPlanner$Product;", Cond.fieldLink RX1 39 "AssemblyPlanner$Ordering" "fewest" "I"]
def wsL_step_r2 : List Cond := [Cond.fieldLink RX1 25 "AssemblyPlanner$Ordering" "best" "[I", Cond.methodLink RX1 51 yX3_count, Cond.instanceMethod yX3_count, Cond.selects RX3 yX3_count yX3_count, Cond.initialized RX3, Cond.code yX3_count cX3_count 1 (some .int), Cond.fieldLink RX3 21 "AssemblyPlanner$Product" "count" "I", Cond.methodLink RX1 36 yX1_find, Cond.instanceMethod yX1_find, Cond.selects RX1 yX1_find yX1_find, Cond.code yX1_find cX1_find 3 none, Cond.fieldLink RX1 32 "AssemblyPlanner$Ordering" "known" "Z", Cond.fieldLink RX1 9 "AssemblyPlanner$Ordering" "sound" "[Z", Cond.fieldLink RX1 15 "AssemblyPlanner$Ordering" "nexts" "[I", Cond.fieldLink RX1 19 "AssemblyPlanner$Ordering" "orders" "[I", Cond.fieldLink RX1 22 "AssemblyPlanner$Ordering" "changes" "[I", Cond.methodLink RX1 57 yX3_all, Cond.instanceMethod yX3_all, Cond.selects RX3 yX3_all yX3_all, Cond.code yX3_all cX3_all 1 (some .int), Cond.methodLink RX1 60 yX3_sound, Cond.instanceMethod yX3_sound, Cond.selects RX3 yX3_sound yX3_sound, Cond.code yX3_sound cX3_sound 2 (some .boolean)]
def wsL_step_r3 : List Cond := [Cond.fieldLink RX3 41 "AssemblyPlanner$Product" "steadyAsked" "Z", Cond.methodLink RX3 49 yX3_connected, Cond.instanceMethod yX3_connected, Cond.selects RX3 yX3_connected yX3_connected, Cond.code yX3_connected cX3_connected 3 (some .boolean), Cond.fieldLink RX3 15 "AssemblyPlanner$Product" "contacts" "[I", Cond.methodLink RX3 45 yX3_reached, Cond.static yX3_reached, Cond.code yX3_reached cX3_reached 7 (some .int), Cond.methodLink RX3 53 yX3_steady, Cond.instanceMethod yX3_steady, Cond.selects RX3 yX3_steady yX3_steady, Cond.code yX3_steady cX3_steady 2 (some .boolean), Cond.fieldLink RX3 18 "AssemblyPlanner$Product" "hinderers" "[I", Cond.fieldLink RX3 38 "AssemblyPlanner$Product" "base" "I", Cond.methodLink RX1 63 yX1_nextsOf, Cond.instanceMethod yX1_nextsOf, Cond.selects RX1 yX1_nextsOf yX1_nextsOf, Cond.code yX1_nextsOf cX1_nextsOf 5 (some .int), Cond.methodLink RX1 76 yX3_freeDirections, Cond.instanceMethod yX3_freeDirections, Cond.selects RX3 yX3_freeDirections yX3_freeDirections, Cond.code yX3_freeDirections cX3_freeDirections 5 (some .int), Cond.methodLink RX1 66 yX1_ordersFrom]
def wsL_step_r4 : List Cond := [Cond.instanceMethod yX1_ordersFrom, Cond.selects RX1 yX1_ordersFrom yX1_ordersFrom, Cond.code yX1_ordersFrom cX1_ordersFrom 4 (some .int), Cond.methodLink RX1 69 yX1_fewestFrom, Cond.instanceMethod yX1_fewestFrom, Cond.selects RX1 yX1_fewestFrom yX1_fewestFrom, Cond.code yX1_fewestFrom cX1_fewestFrom 5 (some .int), Cond.methodLink RX1 83 Lib.Math.min.name, Cond.static Lib.Math.min.name, Cond.initialized "java/lang/Math", Cond.code Lib.Math.min.name Lib.Math.min.code 2 (some .int), Cond.methodLink RX1 79 yX1_changesWith, Cond.instanceMethod yX1_changesWith, Cond.selects RX1 yX1_changesWith yX1_changesWith, Cond.code yX1_changesWith cX1_changesWith 5 (some .int), Cond.methodLink RX1 88 yX3_tool, Cond.instanceMethod yX3_tool, Cond.selects RX3 yX3_tool yX3_tool, Cond.code yX3_tool cX3_tool 2 (some .int), Cond.fieldLink RX3 9 "AssemblyPlanner$Product" "tools" "[I", Cond.methodLink RX1 91 yX1_change, Cond.static yX1_change, Cond.code yX1_change cX1_change 2 (some .int), Cond.methodLink RX1 73 yX1_findBest]
def wsL_step_r5 : List Cond := [Cond.instanceMethod yX1_findBest, Cond.selects RX1 yX1_findBest yX1_findBest, Cond.code yX1_findBest cX1_findBest 6 none, Cond.methodLink RX1 94 yX1_leastNext, Cond.instanceMethod yX1_leastNext, Cond.selects RX1 yX1_leastNext yX1_leastNext, Cond.code yX1_leastNext cX1_leastNext 5 (some .int), Cond.methodLink RX4 171 yX0_tryToPutIn, Cond.instanceMethod yX0_tryToPutIn, Cond.selects RX0 yX0_tryToPutIn yX0_tryToPutIn, Cond.code yX0_tryToPutIn cX0_tryToPutIn 2 (some .boolean), Cond.fieldLink RX0 22 "AssemblyPlanner$Cell" "product" "LAssemblyPlanner$Product;", Cond.fieldLink RX0 9 "AssemblyPlanner$Cell" "jamsToCome" "[I", Cond.fieldLink RX0 39 "AssemblyPlanner$Cell" "time" "I", Cond.methodLink RX0 42 yX3_tool, Cond.methodLink RX0 47 yX0_mount, Cond.instanceMethod yX0_mount, Cond.selects RX0 yX0_mount yX0_mount, Cond.code yX0_mount cX0_mount 2 none, Cond.fieldLink RX0 18 "AssemblyPlanner$Cell" "tool" "I", Cond.methodLink RX0 51 yX0_bypassed, Cond.instanceMethod yX0_bypassed, Cond.selects RX0 yX0_bypassed yX0_bypassed, Cond.code yX0_bypassed cX0_bypassed 2 (some .boolean)]
def wsL_step_r6 : List Cond := [Cond.fieldLink RX0 15 "AssemblyPlanner$Cell" "jamsSinceStart" "[I", Cond.methodLink RX0 55 yX0_clearJam, Cond.instanceMethod yX0_clearJam, Cond.selects RX0 yX0_clearJam yX0_clearJam, Cond.code yX0_clearJam cX0_clearJam 2 none, Cond.methodLink RX0 58 yX0_putIn, Cond.instanceMethod yX0_putIn, Cond.selects RX0 yX0_putIn yX0_putIn, Cond.code yX0_putIn cX0_putIn 3 none, Cond.fieldLink RX0 36 "AssemblyPlanner$Cell" "in" "I", Cond.methodLink RX0 61 yX3_freeDirections]
def wsL_step : List Cond := .codeWith yL_step cL_step 3 (some .int) [(0, 8, 11, 15)] :: ((wsL_step_r1 ++ (wsL_step_r2 ++ (wsL_step_r3 ++ (wsL_step_r4 ++ (wsL_step_r5 ++ wsL_step_r6))))) ++ wsX40 ++ wsX00 ++ wsX10 ++ wsX30 ++ (vx_atS RX4 51 "java/lang/IllegalStateException" ["java/lang/RuntimeException", "java/lang/Exception"]).filter goodWord)
def wsL_stepBack_r1 : List Cond := [Cond.classLink RL 15 "java/lang/IllegalStateException", Cond.methodLink RL 88 yX4_stepBack, Cond.instanceMethod yX4_stepBack, Cond.selects RX4 yX4_stepBack yX4_stepBack, Cond.initialized RX4, Cond.code yX4_stepBack cX4_stepBack 2 (some .int), Cond.classLink RX4 47 "java/lang/IllegalStateException", Cond.initialized "java/lang/IllegalStateException", Cond.fieldLink RX4 28 "AssemblyPlanner" "ordering" "LAssemblyPlanner$Ordering;", Cond.fieldLink RX4 35 "AssemblyPlanner" "cell" "LAssemblyPlanner$Cell;", Cond.methodLink RX4 174 yX0_lastPlace, Cond.instanceMethod yX0_lastPlace, Cond.selects RX0 yX0_lastPlace yX0_lastPlace, Cond.initialized RX0, Cond.code yX0_lastPlace cX0_lastPlace 1 (some .int), Cond.fieldLink RX0 33 "AssemblyPlanner$Cell" "placesIn" "I", Cond.methodLink RX4 145 yX1_bestAt, Cond.instanceMethod yX1_bestAt, Cond.selects RX1 yX1_bestAt yX1_bestAt, Cond.initialized RX1, Cond.code yX1_bestAt cX1_bestAt 2 (some .int), Cond.fieldLink RX1 28 "AssemblyPlanner$Ordering" "product" "LAssemblyPlanner$Product;", Cond.fieldLink RX1 39 "AssemblyPlanner$Ordering" "fewest" "I", Cond.fieldLink RX1 25 "AssemblyPlanner$Ordering" "best" "[I"]
def wsL_stepBack_r2 : List Cond := [Cond.methodLink RX1 51 yX3_count, Cond.instanceMethod yX3_count, Cond.selects RX3 yX3_count yX3_count, Cond.initialized RX3, Cond.code yX3_count cX3_count 1 (some .int), Cond.fieldLink RX3 21 "AssemblyPlanner$Product" "count" "I", Cond.methodLink RX1 36 yX1_find, Cond.instanceMethod yX1_find, Cond.selects RX1 yX1_find yX1_find, Cond.code yX1_find cX1_find 3 none, Cond.fieldLink RX1 32 "AssemblyPlanner$Ordering" "known" "Z", Cond.fieldLink RX1 9 "AssemblyPlanner$Ordering" "sound" "[Z", Cond.fieldLink RX1 15 "AssemblyPlanner$Ordering" "nexts" "[I", Cond.fieldLink RX1 19 "AssemblyPlanner$Ordering" "orders" "[I", Cond.fieldLink RX1 22 "AssemblyPlanner$Ordering" "changes" "[I", Cond.methodLink RX1 57 yX3_all, Cond.instanceMethod yX3_all, Cond.selects RX3 yX3_all yX3_all, Cond.code yX3_all cX3_all 1 (some .int), Cond.methodLink RX1 60 yX3_sound, Cond.instanceMethod yX3_sound, Cond.selects RX3 yX3_sound yX3_sound, Cond.code yX3_sound cX3_sound 2 (some .boolean), Cond.fieldLink RX3 41 "AssemblyPlanner$Product" "steadyAsked" "Z"]
def wsL_stepBack_r3 : List Cond := [Cond.methodLink RX3 49 yX3_connected, Cond.instanceMethod yX3_connected, Cond.selects RX3 yX3_connected yX3_connected, Cond.code yX3_connected cX3_connected 3 (some .boolean), Cond.fieldLink RX3 15 "AssemblyPlanner$Product" "contacts" "[I", Cond.methodLink RX3 45 yX3_reached, Cond.static yX3_reached, Cond.code yX3_reached cX3_reached 7 (some .int), Cond.methodLink RX3 53 yX3_steady, Cond.instanceMethod yX3_steady, Cond.selects RX3 yX3_steady yX3_steady, Cond.code yX3_steady cX3_steady 2 (some .boolean), Cond.fieldLink RX3 18 "AssemblyPlanner$Product" "hinderers" "[I", Cond.fieldLink RX3 38 "AssemblyPlanner$Product" "base" "I", Cond.methodLink RX1 63 yX1_nextsOf, Cond.instanceMethod yX1_nextsOf, Cond.selects RX1 yX1_nextsOf yX1_nextsOf, Cond.code yX1_nextsOf cX1_nextsOf 5 (some .int), Cond.methodLink RX1 76 yX3_freeDirections, Cond.instanceMethod yX3_freeDirections, Cond.selects RX3 yX3_freeDirections yX3_freeDirections, Cond.code yX3_freeDirections cX3_freeDirections 5 (some .int), Cond.methodLink RX1 66 yX1_ordersFrom, Cond.instanceMethod yX1_ordersFrom]
def wsL_stepBack_r4 : List Cond := [Cond.selects RX1 yX1_ordersFrom yX1_ordersFrom, Cond.code yX1_ordersFrom cX1_ordersFrom 4 (some .int), Cond.methodLink RX1 69 yX1_fewestFrom, Cond.instanceMethod yX1_fewestFrom, Cond.selects RX1 yX1_fewestFrom yX1_fewestFrom, Cond.code yX1_fewestFrom cX1_fewestFrom 5 (some .int), Cond.methodLink RX1 83 Lib.Math.min.name, Cond.static Lib.Math.min.name, Cond.initialized "java/lang/Math", Cond.code Lib.Math.min.name Lib.Math.min.code 2 (some .int), Cond.methodLink RX1 79 yX1_changesWith, Cond.instanceMethod yX1_changesWith, Cond.selects RX1 yX1_changesWith yX1_changesWith, Cond.code yX1_changesWith cX1_changesWith 5 (some .int), Cond.methodLink RX1 88 yX3_tool, Cond.instanceMethod yX3_tool, Cond.selects RX3 yX3_tool yX3_tool, Cond.code yX3_tool cX3_tool 2 (some .int), Cond.fieldLink RX3 9 "AssemblyPlanner$Product" "tools" "[I", Cond.methodLink RX1 91 yX1_change, Cond.static yX1_change, Cond.code yX1_change cX1_change 2 (some .int), Cond.methodLink RX1 73 yX1_findBest, Cond.instanceMethod yX1_findBest]
def wsL_stepBack_r5 : List Cond := [Cond.selects RX1 yX1_findBest yX1_findBest, Cond.code yX1_findBest cX1_findBest 6 none, Cond.methodLink RX1 94 yX1_leastNext, Cond.instanceMethod yX1_leastNext, Cond.selects RX1 yX1_leastNext yX1_leastNext, Cond.code yX1_leastNext cX1_leastNext 5 (some .int), Cond.methodLink RX4 179 yX0_takeOut, Cond.instanceMethod yX0_takeOut, Cond.selects RX0 yX0_takeOut yX0_takeOut, Cond.code yX0_takeOut cX0_takeOut 2 none, Cond.fieldLink RX0 36 "AssemblyPlanner$Cell" "in" "I", Cond.fieldLink RX0 39 "AssemblyPlanner$Cell" "time" "I"]
def wsL_stepBack : List Cond := .codeWith yL_stepBack cL_stepBack 3 (some .int) [(0, 8, 11, 15)] :: ((wsL_stepBack_r1 ++ (wsL_stepBack_r2 ++ (wsL_stepBack_r3 ++ (wsL_stepBack_r4 ++ wsL_stepBack_r5)))) ++ wsX40 ++ wsX00 ++ wsX10 ++ wsX30 ++ (vx_atS RX4 51 "java/lang/IllegalStateException" ["java/lang/RuntimeException", "java/lang/Exception"]).filter goodWord)
def wsL_isBypassed_r1 : List Cond := [Cond.classLink RL 21 "java/lang/IndexOutOfBoundsException", Cond.methodLink RL 91 yX4_isBypassed, Cond.instanceMethod yX4_isBypassed, Cond.selects RX4 yX4_isBypassed yX4_isBypassed, Cond.initialized RX4, Cond.code yX4_isBypassed cX4_isBypassed 2 (some .boolean), Cond.fieldLink RX4 35 "AssemblyPlanner" "cell" "LAssemblyPlanner$Cell;", Cond.methodLink RX4 61 yX4_needPart, Cond.instanceMethod yX4_needPart, Cond.selects RX4 yX4_needPart yX4_needPart, Cond.code yX4_needPart cX4_needPart 2 none, Cond.classLink RX4 148 "java/lang/IndexOutOfBoundsException", Cond.initialized "java/lang/IndexOutOfBoundsException", Cond.fieldLink RX4 12 "AssemblyPlanner" "product" "LAssemblyPlanner$Product;", Cond.methodLink RX4 43 yX3_count, Cond.instanceMethod yX3_count, Cond.selects RX3 yX3_count yX3_count, Cond.initialized RX3, Cond.code yX3_count cX3_count 1 (some .int), Cond.fieldLink RX3 21 "AssemblyPlanner$Product" "count" "I", Cond.methodLink RX4 191 yX0_bypassed, Cond.instanceMethod yX0_bypassed, Cond.selects RX0 yX0_bypassed yX0_bypassed, Cond.initialized RX0]
def wsL_isBypassed_r2 : List Cond := [Cond.code yX0_bypassed cX0_bypassed 2 (some .boolean), Cond.fieldLink RX0 15 "AssemblyPlanner$Cell" "jamsSinceStart" "[I"]
def wsL_isBypassed : List Cond := .codeWith yL_isBypassed cL_isBypassed 4 (some .int) [(0, 16, 19, 21)] :: ((wsL_isBypassed_r1 ++ wsL_isBypassed_r2) ++ wsX40 ++ wsX30 ++ wsX00 ++ (vx_atS RX4 152 "java/lang/IndexOutOfBoundsException" ["java/lang/RuntimeException", "java/lang/Exception"]).filter goodWord)
def wsL_law0_r1 : List Cond := [Cond.classLink RL 8 RX4, Cond.instantiable RX4 4, Cond.initialized RX4, Cond.classLink RL 95 RX5, Cond.instantiable RX5 19, Cond.initialized RX5, Cond.arrayClass .long, Cond.methodLink RL 94 yX4_init, Cond.instanceMethod yX4_init, Cond.code yX4_init cX4_init 1 none, Cond.methodLink RX4 3 objectInit, Cond.instanceMethod objectInit, Cond.code objectInit ⟨#[0xb1]⟩ 1 none, Cond.classLink RX4 9 RX3, Cond.instantiable RX3 6, Cond.initialized RX3, Cond.fieldLink RX4 12 "AssemblyPlanner" "product" "LAssemblyPlanner$Product;", Cond.classLink RX4 16 RX2, Cond.instantiable RX2 6, Cond.initialized RX2, Cond.fieldLink RX4 21 "AssemblyPlanner" "parting" "LAssemblyPlanner$Parting;", Cond.classLink RX4 25 RX1, Cond.instantiable RX1 8, Cond.initialized RX1]
def wsL_law0_r2 : List Cond := [Cond.fieldLink RX4 28 "AssemblyPlanner" "ordering" "LAssemblyPlanner$Ordering;", Cond.classLink RX4 32 RX0, Cond.instantiable RX0 8, Cond.initialized RX0, Cond.fieldLink RX4 35 "AssemblyPlanner" "cell" "LAssemblyPlanner$Cell;", Cond.instanceMethod yX3_init, Cond.code yX3_init cX3_init 1 none, Cond.methodLink RX3 3 objectInit, Cond.arrayClass .int, Cond.fieldLink RX3 9 "AssemblyPlanner$Product" "tools" "[I", Cond.fieldLink RX3 15 "AssemblyPlanner$Product" "contacts" "[I", Cond.fieldLink RX3 18 "AssemblyPlanner$Product" "hinderers" "[I", Cond.methodLink RX4 18 yX2_init, Cond.instanceMethod yX2_init, Cond.code yX2_init cX2_init 2 none, Cond.methodLink RX2 3 objectInit, Cond.arrayClass .boolean, Cond.fieldLink RX2 9 "AssemblyPlanner$Parting" "connected" "[Z", Cond.fieldLink RX2 15 "AssemblyPlanner$Parting" "splits" "[I", Cond.fieldLink RX2 19 "AssemblyPlanner$Parting" "ways" "[I", Cond.fieldLink RX2 22 "AssemblyPlanner$Parting" "depths" "[I", Cond.fieldLink RX2 25 "AssemblyPlanner$Parting" "product" "LAssemblyPlanner$Product;", Cond.methodLink RX4 27 yX1_init, Cond.instanceMethod yX1_init]
def wsL_law0_r3 : List Cond := [Cond.code yX1_init cX1_init 2 none, Cond.methodLink RX1 3 objectInit, Cond.fieldLink RX1 9 "AssemblyPlanner$Ordering" "sound" "[Z", Cond.fieldLink RX1 15 "AssemblyPlanner$Ordering" "nexts" "[I", Cond.fieldLink RX1 19 "AssemblyPlanner$Ordering" "orders" "[I", Cond.fieldLink RX1 22 "AssemblyPlanner$Ordering" "changes" "[I", Cond.fieldLink RX1 25 "AssemblyPlanner$Ordering" "best" "[I", Cond.fieldLink RX1 28 "AssemblyPlanner$Ordering" "product" "LAssemblyPlanner$Product;", Cond.methodLink RX4 34 yX0_init, Cond.instanceMethod yX0_init, Cond.code yX0_init cX0_init 2 none, Cond.methodLink RX0 3 objectInit, Cond.fieldLink RX0 9 "AssemblyPlanner$Cell" "jamsToCome" "[I", Cond.fieldLink RX0 15 "AssemblyPlanner$Cell" "jamsSinceStart" "[I", Cond.fieldLink RX0 18 "AssemblyPlanner$Cell" "tool" "I", Cond.fieldLink RX0 22 "AssemblyPlanner$Cell" "product" "LAssemblyPlanner$Product;", Cond.methodLink RL 97 yX5_init, Cond.instanceMethod yX5_init, Cond.code yX5_init cX5_init 1 none, Cond.methodLink RX5 1 objectInit, Cond.fieldLink RX5 7 "AssemblyPlannerModel" "tools" "[I", Cond.fieldLink RX5 13 "AssemblyPlannerModel" "contacts" "[I", Cond.fieldLink RX5 16 "AssemblyPlannerModel" "hinders" "[I", Cond.fieldLink RX5 19 "AssemblyPlannerModel" "jams" "[I"]
def wsL_law0_r4 : List Cond := [Cond.fieldLink RX5 22 "AssemblyPlannerModel" "cleared" "[I", Cond.fieldLink RX5 25 "AssemblyPlannerModel" "ways" "[I", Cond.fieldLink RX5 28 "AssemblyPlannerModel" "depths" "[I", Cond.fieldLink RX5 31 "AssemblyPlannerModel" "counts" "[I", Cond.fieldLink RX5 34 "AssemblyPlannerModel" "changes" "[I", Cond.fieldLink RX5 37 "AssemblyPlannerModel" "order" "[I", Cond.methodLink RL 98 yL_addPart, Cond.static yL_addPart, Cond.initialized RL, Cond.codeWith yL_addPart cL_addPart 4 (some .int) [(0, 9, 12, 13), (0, 9, 15, 15)], Cond.classLink RL 13 "java/lang/IllegalArgumentException", Cond.classLink RL 15 "java/lang/IllegalStateException", Cond.methodLink RL 7 yX4_addPart, Cond.instanceMethod yX4_addPart, Cond.selects RX4 yX4_addPart yX4_addPart, Cond.code yX4_addPart cX4_addPart 2 (some .int), Cond.classLink RX4 47 "java/lang/IllegalStateException", Cond.initialized "java/lang/IllegalStateException", Cond.methodLink RX4 39 yX4_needTool, Cond.instanceMethod yX4_needTool, Cond.selects RX4 yX4_needTool yX4_needTool, Cond.code yX4_needTool cX4_needTool 2 none, Cond.classLink RX4 153 "java/lang/IllegalArgumentException", Cond.initialized "java/lang/IllegalArgumentException"]
def wsL_law0_r5 : List Cond := [Cond.methodLink RX4 43 yX3_count, Cond.instanceMethod yX3_count, Cond.selects RX3 yX3_count yX3_count, Cond.code yX3_count cX3_count 1 (some .int), Cond.fieldLink RX3 21 "AssemblyPlanner$Product" "count" "I", Cond.methodLink RX4 54 yX4_productIsTold, Cond.instanceMethod yX4_productIsTold, Cond.selects RX4 yX4_productIsTold yX4_productIsTold, Cond.code yX4_productIsTold cX4_productIsTold 1 none, Cond.methodLink RX4 194 yX2_forget, Cond.instanceMethod yX2_forget, Cond.selects RX2 yX2_forget yX2_forget, Cond.code yX2_forget cX2_forget 1 none, Cond.fieldLink RX2 29 "AssemblyPlanner$Parting" "known" "Z", Cond.methodLink RX4 197 yX1_forget, Cond.instanceMethod yX1_forget, Cond.selects RX1 yX1_forget yX1_forget, Cond.code yX1_forget cX1_forget 1 none, Cond.fieldLink RX1 32 "AssemblyPlanner$Ordering" "known" "Z", Cond.methodLink RX4 198 yX0_halt, Cond.instanceMethod yX0_halt, Cond.selects RX0 yX0_halt yX0_halt, Cond.code yX0_halt cX0_halt 2 none, Cond.fieldLink RX0 29 "AssemblyPlanner$Cell" "begun" "Z"]
def wsL_law0_r6 : List Cond := [Cond.fieldLink RX0 33 "AssemblyPlanner$Cell" "placesIn" "I", Cond.fieldLink RX0 36 "AssemblyPlanner$Cell" "in" "I", Cond.fieldLink RX0 39 "AssemblyPlanner$Cell" "time" "I", Cond.methodLink RX4 57 yX3_add, Cond.instanceMethod yX3_add, Cond.selects RX3 yX3_add yX3_add, Cond.code yX3_add cX3_add 3 (some .int), Cond.methodLink RL 103 yX5_addPart, Cond.instanceMethod yX5_addPart, Cond.selects RX5 yX5_addPart yX5_addPart, Cond.code yX5_addPart cX5_addPart 2 (some .int), Cond.fieldLink RX5 44 "AssemblyPlannerModel" "parts" "I", Cond.fieldLink RX5 54 "AssemblyPlannerModel" "isBegun" "Z", Cond.methodLink RX5 47 yX5_isTool, Cond.static yX5_isTool, Cond.code yX5_isTool cX5_isTool 1 (some .boolean), Cond.methodLink RX5 51 yX5_holds, Cond.instanceMethod yX5_holds, Cond.selects RX5 yX5_holds yX5_holds, Cond.code yX5_holds cX5_holds 2 (some .boolean), Cond.fieldLink RX5 40 "AssemblyPlannerModel" "thrown" "I", Cond.methodLink RL 104 yX5_thrown, Cond.instanceMethod yX5_thrown, Cond.selects RX5 yX5_thrown yX5_thrown]
def wsL_law0_r7 : List Cond := [Cond.code yX5_thrown cX5_thrown 1 (some .int), Cond.methodLink RL 107 yL_setTool, Cond.static yL_setTool, Cond.codeWith yL_setTool cL_setTool 5 (some .int) [(0, 10, 13, 21), (0, 10, 17, 13)], Cond.classLink RL 21 "java/lang/IndexOutOfBoundsException", Cond.methodLink RL 17 yX4_setTool, Cond.instanceMethod yX4_setTool, Cond.selects RX4 yX4_setTool yX4_setTool, Cond.code yX4_setTool cX4_setTool 3 (some .int), Cond.methodLink RX4 61 yX4_needPart, Cond.instanceMethod yX4_needPart, Cond.selects RX4 yX4_needPart yX4_needPart, Cond.code yX4_needPart cX4_needPart 2 none, Cond.classLink RX4 148 "java/lang/IndexOutOfBoundsException", Cond.initialized "java/lang/IndexOutOfBoundsException", Cond.methodLink RX4 64 yX3_changeTool, Cond.instanceMethod yX3_changeTool, Cond.selects RX3 yX3_changeTool yX3_changeTool, Cond.code yX3_changeTool cX3_changeTool 4 (some .int), Cond.methodLink RL 110 yX5_setTool, Cond.instanceMethod yX5_setTool, Cond.selects RX5 yX5_setTool yX5_setTool, Cond.code yX5_setTool cX5_setTool 4 (some .int), Cond.methodLink RX5 58 yX5_isPart]
def wsL_law0_r8 : List Cond := [Cond.instanceMethod yX5_isPart, Cond.selects RX5 yX5_isPart yX5_isPart, Cond.code yX5_isPart cX5_isPart 2 (some .boolean), Cond.methodLink RL 111 yL_contact, Cond.static yL_contact, Cond.codeWith yL_contact cL_contact 6 (some .int) [(0, 12, 15, 21), (0, 12, 19, 13)], Cond.methodLink RL 23 yX4_contact, Cond.instanceMethod yX4_contact, Cond.selects RX4 yX4_contact yX4_contact, Cond.code yX4_contact cX4_contact 4 (some .int), Cond.methodLink RX4 68 yX4_needDifferent, Cond.instanceMethod yX4_needDifferent, Cond.selects RX4 yX4_needDifferent yX4_needDifferent, Cond.code yX4_needDifferent cX4_needDifferent 3 none, Cond.methodLink RX4 72 yX3_tellContact, Cond.instanceMethod yX3_tellContact, Cond.selects RX3 yX3_tellContact yX3_tellContact, Cond.code yX3_tellContact cX3_tellContact 4 (some .int), Cond.methodLink RX3 25 yX3_changed, Cond.static yX3_changed, Cond.code yX3_changed cX3_changed 3 (some .int), Cond.methodLink RX3 29 yJ6_bitCount_0f7a4, Cond.static yJ6_bitCount_0f7a4, Cond.initialized RJ6]
def wsL_law0_r9 : List Cond := [Cond.code yJ6_bitCount_0f7a4 cJ6_bitCount_0f7a4 1 (some .int), Cond.constant RJ6 265 (1431655765), Cond.constant RJ6 266 (858993459), Cond.constant RJ6 267 (252645135), Cond.methodLink RL 114 yX5_contact, Cond.instanceMethod yX5_contact, Cond.selects RX5 yX5_contact yX5_contact, Cond.code yX5_contact cX5_contact 4 (some .int), Cond.methodLink RX5 61 yX5_bits, Cond.static yX5_bits, Cond.code yX5_bits cX5_bits 3 (some .int), Cond.methodLink RL 115 yL_hinder, Cond.static yL_hinder, Cond.codeWith yL_hinder cL_hinder 7 (some .int) [(0, 14, 17, 21), (0, 14, 21, 13)], Cond.methodLink RL 27 yX4_hinder, Cond.instanceMethod yX4_hinder, Cond.selects RX4 yX4_hinder yX4_hinder, Cond.code yX4_hinder cX4_hinder 5 (some .int), Cond.methodLink RX4 76 yX4_needDirection, Cond.instanceMethod yX4_needDirection, Cond.selects RX4 yX4_needDirection yX4_needDirection, Cond.code yX4_needDirection cX4_needDirection 2 none, Cond.methodLink RX4 79 yX3_tellHindered, Cond.instanceMethod yX3_tellHindered]
def wsL_law0_r10 : List Cond := [Cond.selects RX3 yX3_tellHindered yX3_tellHindered, Cond.code yX3_tellHindered cX3_tellHindered 7 (some .int), Cond.methodLink RX3 35 yX3_opposite, Cond.static yX3_opposite, Cond.code yX3_opposite cX3_opposite 1 (some .int), Cond.methodLink RL 118 yX5_hinder, Cond.instanceMethod yX5_hinder, Cond.selects RX5 yX5_hinder yX5_hinder, Cond.code yX5_hinder cX5_hinder 8 (some .int), Cond.methodLink RX5 65 yX5_isDirection, Cond.static yX5_isDirection, Cond.code yX5_isDirection cX5_isDirection 1 (some .boolean), Cond.methodLink RL 119 yL_setBase, Cond.static yL_setBase, Cond.codeWith yL_setBase cL_setBase 4 (some .int) [(0, 9, 12, 21)], Cond.methodLink RL 31 yX4_setBase, Cond.instanceMethod yX4_setBase, Cond.selects RX4 yX4_setBase yX4_setBase, Cond.code yX4_setBase cX4_setBase 2 (some .int), Cond.methodLink RX4 83 yX3_changeBase, Cond.instanceMethod yX3_changeBase, Cond.selects RX3 yX3_changeBase yX3_changeBase, Cond.code yX3_changeBase cX3_changeBase 3 (some .int), Cond.fieldLink RX3 38 "AssemblyPlanner$Product" "base" "I"]
def wsL_law0_r11 : List Cond := [Cond.methodLink RL 121 yX5_setBase, Cond.instanceMethod yX5_setBase, Cond.selects RX5 yX5_setBase yX5_setBase, Cond.code yX5_setBase cX5_setBase 3 (some .int), Cond.fieldLink RX5 68 "AssemblyPlannerModel" "base" "I", Cond.methodLink RL 122 yX4_askSteady, Cond.instanceMethod yX4_askSteady, Cond.selects RX4 yX4_askSteady yX4_askSteady, Cond.code yX4_askSteady cX4_askSteady 2 (some .boolean), Cond.methodLink RX4 86 yX3_changeSteadyAsked, Cond.instanceMethod yX3_changeSteadyAsked, Cond.selects RX3 yX3_changeSteadyAsked yX3_changeSteadyAsked, Cond.code yX3_changeSteadyAsked cX3_changeSteadyAsked 3 (some .boolean), Cond.fieldLink RX3 41 "AssemblyPlanner$Product" "steadyAsked" "Z", Cond.methodLink RL 126 yX5_askSteady, Cond.instanceMethod yX5_askSteady, Cond.selects RX5 yX5_askSteady yX5_askSteady, Cond.code yX5_askSteady cX5_askSteady 3 (some .boolean), Cond.fieldLink RX5 71 "AssemblyPlannerModel" "isAsked" "Z", Cond.methodLink RL 127 yX4_parts, Cond.instanceMethod yX4_parts, Cond.selects RX4 yX4_parts yX4_parts, Cond.code yX4_parts cX4_parts 1 (some .int), Cond.methodLink RL 130 yX5_parts]
def wsL_law0_r12 : List Cond := [Cond.instanceMethod yX5_parts, Cond.selects RX5 yX5_parts yX5_parts, Cond.code yX5_parts cX5_parts 1 (some .int), Cond.methodLink RL 131 yL_isConnected, Cond.static yL_isConnected, Cond.codeWith yL_isConnected cL_isConnected 4 (some .int) [(0, 16, 19, 13)], Cond.methodLink RL 34 yX4_isConnected, Cond.instanceMethod yX4_isConnected, Cond.selects RX4 yX4_isConnected yX4_isConnected, Cond.code yX4_isConnected cX4_isConnected 2 (some .boolean), Cond.methodLink RX4 90 yX4_needSet, Cond.instanceMethod yX4_needSet, Cond.selects RX4 yX4_needSet yX4_needSet, Cond.code yX4_needSet cX4_needSet 2 none, Cond.methodLink RX4 125 yX3_all, Cond.instanceMethod yX3_all, Cond.selects RX3 yX3_all yX3_all, Cond.code yX3_all cX3_all 1 (some .int), Cond.methodLink RX4 93 yX3_connected, Cond.instanceMethod yX3_connected, Cond.selects RX3 yX3_connected yX3_connected, Cond.code yX3_connected cX3_connected 3 (some .boolean), Cond.methodLink RX3 45 yX3_reached, Cond.static yX3_reached]
def wsL_law0_r13 : List Cond := [Cond.code yX3_reached cX3_reached 7 (some .int), Cond.methodLink RL 133 yX5_isConnected, Cond.instanceMethod yX5_isConnected, Cond.selects RX5 yX5_isConnected yX5_isConnected, Cond.code yX5_isConnected cX5_isConnected 2 (some .boolean), Cond.methodLink RX5 88 yX5_isSet, Cond.instanceMethod yX5_isSet, Cond.selects RX5 yX5_isSet yX5_isSet, Cond.code yX5_isSet cX5_isSet 2 (some .boolean), Cond.methodLink RX5 74 yX5_whole, Cond.instanceMethod yX5_whole, Cond.selects RX5 yX5_whole yX5_whole, Cond.code yX5_whole cX5_whole 1 (some .int), Cond.methodLink RX5 82 yX5_hangsTogether, Cond.instanceMethod yX5_hangsTogether, Cond.selects RX5 yX5_hangsTogether yX5_hangsTogether, Cond.code yX5_hangsTogether cX5_hangsTogether 2 (some .boolean), Cond.methodLink RX5 78 yX5_reached, Cond.instanceMethod yX5_reached, Cond.selects RX5 yX5_reached yX5_reached, Cond.code yX5_reached cX5_reached 6 (some .int), Cond.methodLink RL 134 yL_isSteady, Cond.static yL_isSteady, Cond.codeWith yL_isSteady cL_isSteady 4 (some .int) [(0, 16, 19, 13)]]
def wsL_law0_r14 : List Cond := [Cond.methodLink RL 38 yX4_isSteady, Cond.instanceMethod yX4_isSteady, Cond.selects RX4 yX4_isSteady yX4_isSteady, Cond.code yX4_isSteady cX4_isSteady 2 (some .boolean), Cond.methodLink RX4 97 yX3_steady, Cond.instanceMethod yX3_steady, Cond.selects RX3 yX3_steady yX3_steady, Cond.code yX3_steady cX3_steady 2 (some .boolean), Cond.methodLink RL 136 yX5_isSteady, Cond.instanceMethod yX5_isSteady, Cond.selects RX5 yX5_isSteady yX5_isSteady, Cond.code yX5_isSteady cX5_isSteady 2 (some .boolean), Cond.methodLink RX5 85 yX5_isHeld, Cond.instanceMethod yX5_isHeld, Cond.selects RX5 yX5_isHeld yX5_isHeld, Cond.code yX5_isHeld cX5_isHeld 6 (some .boolean), Cond.methodLink RL 137 yL_free, Cond.static yL_free, Cond.codeWith yL_free cL_free 5 (some .int) [(0, 10, 13, 21), (0, 10, 17, 13)], Cond.methodLink RL 41 yX4_free, Cond.instanceMethod yX4_free, Cond.selects RX4 yX4_free yX4_free, Cond.code yX4_free cX4_free 3 (some .int), Cond.methodLink RX4 100 yX4_needSetWith]
def wsL_law0_r15 : List Cond := [Cond.instanceMethod yX4_needSetWith, Cond.selects RX4 yX4_needSetWith yX4_needSetWith, Cond.code yX4_needSetWith cX4_needSetWith 3 none, Cond.methodLink RX4 103 yX3_freeDirections, Cond.instanceMethod yX3_freeDirections, Cond.selects RX3 yX3_freeDirections yX3_freeDirections, Cond.code yX3_freeDirections cX3_freeDirections 5 (some .int), Cond.methodLink RL 139 yX5_free, Cond.instanceMethod yX5_free, Cond.selects RX5 yX5_free yX5_free, Cond.code yX5_free cX5_free 3 (some .int), Cond.methodLink RX5 91 yX5_isOf, Cond.instanceMethod yX5_isOf, Cond.selects RX5 yX5_isOf yX5_isOf, Cond.code yX5_isOf cX5_isOf 3 (some .boolean), Cond.methodLink RX5 95 yX5_freeOf, Cond.instanceMethod yX5_freeOf, Cond.selects RX5 yX5_freeOf yX5_freeOf, Cond.code yX5_freeOf cX5_freeOf 5 (some .int), Cond.methodLink RL 140 yL_canTake, Cond.static yL_canTake, Cond.codeWith yL_canTake cL_canTake 5 (some .int) [(0, 17, 20, 21), (0, 17, 24, 13)], Cond.methodLink RL 44 yX4_canTake, Cond.instanceMethod yX4_canTake]
def wsL_law0_r16 : List Cond := [Cond.selects RX4 yX4_canTake yX4_canTake, Cond.code yX4_canTake cX4_canTake 3 (some .boolean), Cond.methodLink RX4 106 yX3_takeable, Cond.instanceMethod yX3_takeable, Cond.selects RX3 yX3_takeable yX3_takeable, Cond.code yX3_takeable cX3_takeable 3 (some .boolean), Cond.methodLink RX3 56 yX3_sound, Cond.instanceMethod yX3_sound, Cond.selects RX3 yX3_sound yX3_sound, Cond.code yX3_sound cX3_sound 2 (some .boolean), Cond.methodLink RX3 49 yX3_connected, Cond.methodLink RX3 53 yX3_steady, Cond.methodLink RX3 59 yX3_freeDirections, Cond.methodLink RL 142 yX5_canTake, Cond.instanceMethod yX5_canTake, Cond.selects RX5 yX5_canTake yX5_canTake, Cond.code yX5_canTake cX5_canTake 3 (some .boolean), Cond.methodLink RX5 98 yX5_isSound, Cond.instanceMethod yX5_isSound, Cond.selects RX5 yX5_isSound yX5_isSound, Cond.code yX5_isSound cX5_isSound 2 (some .boolean), Cond.methodLink RL 143 yL_movesWith, Cond.static yL_movesWith, Cond.codeWith yL_movesWith cL_movesWith 5 (some .int) [(0, 10, 13, 21)]]
def wsL_law0_r17 : List Cond := [Cond.methodLink RL 48 yX4_movesWith, Cond.instanceMethod yX4_movesWith, Cond.selects RX4 yX4_movesWith yX4_movesWith, Cond.code yX4_movesWith cX4_movesWith 3 (some .int), Cond.methodLink RX4 110 yX3_movingWith, Cond.instanceMethod yX3_movingWith, Cond.selects RX3 yX3_movingWith yX3_movingWith, Cond.code yX3_movingWith cX3_movingWith 3 (some .int), Cond.methodLink RX3 63 yX3_all, Cond.methodLink RL 145 yX5_movesWith, Cond.instanceMethod yX5_movesWith, Cond.selects RX5 yX5_movesWith yX5_movesWith, Cond.code yX5_movesWith cX5_movesWith 3 (some .int), Cond.methodLink RX5 101 yX5_moving, Cond.instanceMethod yX5_moving, Cond.selects RX5 yX5_moving yX5_moving, Cond.code yX5_moving cX5_moving 6 (some .int), Cond.methodLink RL 146 yL_boundTo, Cond.static yL_boundTo, Cond.codeWith yL_boundTo cL_boundTo 5 (some .int) [(0, 10, 13, 21)], Cond.methodLink RL 51 yX4_boundTo, Cond.instanceMethod yX4_boundTo, Cond.selects RX4 yX4_boundTo yX4_boundTo, Cond.code yX4_boundTo cX4_boundTo 3 (some .int)]
def wsL_law0_r18 : List Cond := [Cond.methodLink RX4 113 yX3_boundWith, Cond.instanceMethod yX3_boundWith, Cond.selects RX3 yX3_boundWith yX3_boundWith, Cond.code yX3_boundWith cX3_boundWith 3 (some .int), Cond.methodLink RX3 67 yX3_movingWith, Cond.methodLink RL 148 yX5_boundTo, Cond.instanceMethod yX5_boundTo, Cond.selects RX5 yX5_boundTo yX5_boundTo, Cond.code yX5_boundTo cX5_boundTo 3 (some .int), Cond.methodLink RX5 104 yX5_bound, Cond.instanceMethod yX5_bound, Cond.selects RX5 yX5_bound yX5_bound, Cond.code yX5_bound cX5_bound 7 (some .int), Cond.methodLink RL 149 yL_groups, Cond.static yL_groups, Cond.codeWith yL_groups cL_groups 4 (some .int) [(0, 9, 12, 21)], Cond.methodLink RL 54 yX4_groups, Cond.instanceMethod yX4_groups, Cond.selects RX4 yX4_groups yX4_groups, Cond.code yX4_groups cX4_groups 2 (some .int), Cond.methodLink RX4 116 yX3_boundGroups, Cond.instanceMethod yX3_boundGroups, Cond.selects RX3 yX3_boundGroups yX3_boundGroups, Cond.code yX3_boundGroups cX3_boundGroups 5 (some .int)]
def wsL_law0_r19 : List Cond := [Cond.methodLink RX3 70 yX3_boundWith, Cond.methodLink RL 151 yX5_groups, Cond.instanceMethod yX5_groups, Cond.selects RX5 yX5_groups yX5_groups, Cond.code yX5_groups cX5_groups 5 (some .int), Cond.methodLink RL 152 yL_splits, Cond.static yL_splits, Cond.codeWith yL_splits cL_splits 4 (some .int) [(0, 9, 12, 13)], Cond.methodLink RL 57 yX4_splits, Cond.instanceMethod yX4_splits, Cond.selects RX4 yX4_splits yX4_splits, Cond.code yX4_splits cX4_splits 2 (some .int), Cond.methodLink RX4 119 yX2_splitsOf, Cond.instanceMethod yX2_splitsOf, Cond.selects RX2 yX2_splitsOf yX2_splitsOf, Cond.code yX2_splitsOf cX2_splitsOf 2 (some .int), Cond.methodLink RX2 33 yX2_find, Cond.instanceMethod yX2_find, Cond.selects RX2 yX2_find yX2_find, Cond.code yX2_find cX2_find 2 none, Cond.methodLink RX2 36 yX3_all, Cond.methodLink RX2 42 yX3_connected, Cond.methodLink RX2 45 yX2_findFor, Cond.instanceMethod yX2_findFor]
def wsL_law0_r20 : List Cond := [Cond.selects RX2 yX2_findFor yX2_findFor, Cond.code yX2_findFor cX2_findFor 4 none, Cond.methodLink RX2 49 yX2_isSplit, Cond.instanceMethod yX2_isSplit, Cond.selects RX2 yX2_isSplit yX2_isSplit, Cond.code yX2_isSplit cX2_isSplit 3 (some .boolean), Cond.methodLink RX2 57 yX3_separable, Cond.instanceMethod yX3_separable, Cond.selects RX3 yX3_separable yX3_separable, Cond.code yX3_separable cX3_separable 4 (some .boolean), Cond.methodLink RX3 73 yX3_hindered, Cond.instanceMethod yX3_hindered, Cond.selects RX3 yX3_hindered yX3_hindered, Cond.code yX3_hindered cX3_hindered 5 (some .boolean), Cond.methodLink RX2 53 yX2_addSplit, Cond.instanceMethod yX2_addSplit, Cond.selects RX2 yX2_addSplit yX2_addSplit, Cond.code yX2_addSplit cX2_addSplit 5 none, Cond.methodLink RX2 60 Lib.Math.max.name, Cond.static Lib.Math.max.name, Cond.initialized "java/lang/Math", Cond.code Lib.Math.max.name Lib.Math.max.code 2 (some .int), Cond.methodLink RX2 66 Lib.Math.min.name, Cond.static Lib.Math.min.name]
def wsL_law0_r21 : List Cond := [Cond.code Lib.Math.min.name Lib.Math.min.code 2 (some .int), Cond.methodLink RL 154 yX5_splits, Cond.instanceMethod yX5_splits, Cond.selects RX5 yX5_splits yX5_splits, Cond.code yX5_splits cX5_splits 4 (some .int), Cond.methodLink RX5 110 yX5_isSplit, Cond.instanceMethod yX5_isSplit, Cond.selects RX5 yX5_isSplit yX5_isSplit, Cond.code yX5_isSplit cX5_isSplit 5 (some .boolean), Cond.methodLink RX5 107 yX5_canPart, Cond.instanceMethod yX5_canPart, Cond.selects RX5 yX5_canPart yX5_canPart, Cond.code yX5_canPart cX5_canPart 7 (some .boolean), Cond.methodLink RL 155 yL_ways, Cond.static yL_ways, Cond.codeWith yL_ways cL_ways 3 (some .int) [(0, 8, 11, 15)], Cond.methodLink RL 60 yX4_ways, Cond.instanceMethod yX4_ways, Cond.selects RX4 yX4_ways yX4_ways, Cond.code yX4_ways cX4_ways 1 (some .int), Cond.methodLink RX4 122 yX4_needParts, Cond.instanceMethod yX4_needParts, Cond.selects RX4 yX4_needParts yX4_needParts, Cond.code yX4_needParts cX4_needParts 1 none]
def wsL_law0_r22 : List Cond := [Cond.methodLink RX4 128 yX2_waysOf, Cond.instanceMethod yX2_waysOf, Cond.selects RX2 yX2_waysOf yX2_waysOf, Cond.code yX2_waysOf cX2_waysOf 2 (some .int), Cond.methodLink RL 158 yX5_ways, Cond.instanceMethod yX5_ways, Cond.selects RX5 yX5_ways yX5_ways, Cond.code yX5_ways cX5_ways 1 (some .int), Cond.methodLink RX5 113 yX5_comesApart, Cond.instanceMethod yX5_comesApart, Cond.selects RX5 yX5_comesApart yX5_comesApart, Cond.code yX5_comesApart cX5_comesApart 6 none, Cond.methodLink RL 159 yL_leastDepth, Cond.static yL_leastDepth, Cond.codeWith yL_leastDepth cL_leastDepth 3 (some .int) [(0, 8, 11, 15)], Cond.methodLink RL 64 yX4_leastDepth, Cond.instanceMethod yX4_leastDepth, Cond.selects RX4 yX4_leastDepth yX4_leastDepth, Cond.code yX4_leastDepth cX4_leastDepth 1 (some .int), Cond.methodLink RX4 131 yX2_leastDepthOf, Cond.instanceMethod yX2_leastDepthOf, Cond.selects RX2 yX2_leastDepthOf yX2_leastDepthOf, Cond.code yX2_leastDepthOf cX2_leastDepthOf 2 (some .int), Cond.methodLink RL 161 yX5_leastDepth]
def wsL_law0_r23 : List Cond := [Cond.instanceMethod yX5_leastDepth, Cond.selects RX5 yX5_leastDepth yX5_leastDepth, Cond.code yX5_leastDepth cX5_leastDepth 1 (some .int), Cond.methodLink RL 162 yL_orders, Cond.static yL_orders, Cond.codeWith yL_orders cL_orders 3 (some .int) [(0, 8, 11, 15)], Cond.methodLink RL 67 yX4_orders, Cond.instanceMethod yX4_orders, Cond.selects RX4 yX4_orders yX4_orders, Cond.code yX4_orders cX4_orders 1 (some .int), Cond.methodLink RX4 134 yX1_possible, Cond.instanceMethod yX1_possible, Cond.selects RX1 yX1_possible yX1_possible, Cond.code yX1_possible cX1_possible 1 (some .int), Cond.methodLink RX1 36 yX1_find, Cond.instanceMethod yX1_find, Cond.selects RX1 yX1_find yX1_find, Cond.code yX1_find cX1_find 3 none, Cond.fieldLink RX1 39 "AssemblyPlanner$Ordering" "fewest" "I", Cond.methodLink RX1 57 yX3_all, Cond.methodLink RX1 60 yX3_sound, Cond.methodLink RX1 63 yX1_nextsOf, Cond.instanceMethod yX1_nextsOf, Cond.selects RX1 yX1_nextsOf yX1_nextsOf]
def wsL_law0_r24 : List Cond := [Cond.code yX1_nextsOf cX1_nextsOf 5 (some .int), Cond.methodLink RX1 51 yX3_count, Cond.methodLink RX1 76 yX3_freeDirections, Cond.methodLink RX1 66 yX1_ordersFrom, Cond.instanceMethod yX1_ordersFrom, Cond.selects RX1 yX1_ordersFrom yX1_ordersFrom, Cond.code yX1_ordersFrom cX1_ordersFrom 4 (some .int), Cond.methodLink RX1 69 yX1_fewestFrom, Cond.instanceMethod yX1_fewestFrom, Cond.selects RX1 yX1_fewestFrom yX1_fewestFrom, Cond.code yX1_fewestFrom cX1_fewestFrom 5 (some .int), Cond.methodLink RX1 83 Lib.Math.min.name, Cond.methodLink RX1 79 yX1_changesWith, Cond.instanceMethod yX1_changesWith, Cond.selects RX1 yX1_changesWith yX1_changesWith, Cond.code yX1_changesWith cX1_changesWith 5 (some .int), Cond.methodLink RX1 88 yX3_tool, Cond.instanceMethod yX3_tool, Cond.selects RX3 yX3_tool yX3_tool, Cond.code yX3_tool cX3_tool 2 (some .int), Cond.methodLink RX1 91 yX1_change, Cond.static yX1_change, Cond.code yX1_change cX1_change 2 (some .int), Cond.methodLink RX1 73 yX1_findBest]
def wsL_law0_r25 : List Cond := [Cond.instanceMethod yX1_findBest, Cond.selects RX1 yX1_findBest yX1_findBest, Cond.code yX1_findBest cX1_findBest 6 none, Cond.methodLink RX1 94 yX1_leastNext, Cond.instanceMethod yX1_leastNext, Cond.selects RX1 yX1_leastNext yX1_leastNext, Cond.code yX1_leastNext cX1_leastNext 5 (some .int), Cond.methodLink RL 164 yX5_orders, Cond.instanceMethod yX5_orders, Cond.selects RX5 yX5_orders yX5_orders, Cond.code yX5_orders cX5_orders 4 (some .int), Cond.methodLink RX5 116 yX5_canAdd, Cond.instanceMethod yX5_canAdd, Cond.selects RX5 yX5_canAdd yX5_canAdd, Cond.code yX5_canAdd cX5_canAdd 4 (some .boolean), Cond.methodLink RL 165 yL_fewestChanges, Cond.static yL_fewestChanges, Cond.codeWith yL_fewestChanges cL_fewestChanges 3 (some .int) [(0, 8, 11, 15)], Cond.methodLink RL 70 yX4_fewestChanges, Cond.instanceMethod yX4_fewestChanges, Cond.selects RX4 yX4_fewestChanges yX4_fewestChanges, Cond.code yX4_fewestChanges cX4_fewestChanges 1 (some .int), Cond.methodLink RX4 137 yX1_fewestBySets, Cond.instanceMethod yX1_fewestBySets]
def wsL_law0_r26 : List Cond := [Cond.selects RX1 yX1_fewestBySets yX1_fewestBySets, Cond.code yX1_fewestBySets cX1_fewestBySets 1 (some .int), Cond.methodLink RX1 43 yX1_orNone, Cond.static yX1_orNone, Cond.code yX1_orNone cX1_orNone 1 (some .int), Cond.methodLink RL 167 yX5_fewestChanges, Cond.instanceMethod yX5_fewestChanges, Cond.selects RX5 yX5_fewestChanges yX5_fewestChanges, Cond.code yX5_fewestChanges cX5_fewestChanges 1 (some .int), Cond.methodLink RX5 122 yX5_best, Cond.instanceMethod yX5_best, Cond.selects RX5 yX5_best yX5_best, Cond.code yX5_best cX5_best 9 (some .int), Cond.methodLink RX5 119 yX5_laysChanges, Cond.instanceMethod yX5_laysChanges, Cond.selects RX5 yX5_laysChanges yX5_laysChanges, Cond.code yX5_laysChanges cX5_laysChanges 6 none, Cond.methodLink RL 168 yL_fewestByListing, Cond.static yL_fewestByListing, Cond.codeWith yL_fewestByListing cL_fewestByListing 3 (some .int) [(0, 8, 11, 15)], Cond.methodLink RL 73 yX4_fewestByListing, Cond.instanceMethod yX4_fewestByListing, Cond.selects RX4 yX4_fewestByListing yX4_fewestByListing, Cond.code yX4_fewestByListing cX4_fewestByListing 1 (some .int)]
def wsL_law0_r27 : List Cond := [Cond.methodLink RX4 142 yX1_fewestListed, Cond.instanceMethod yX1_fewestListed, Cond.selects RX1 yX1_fewestListed yX1_fewestListed, Cond.code yX1_fewestListed cX1_fewestListed 1 (some .int), Cond.methodLink RX1 47 yX1_listed, Cond.static yX1_listed, Cond.code yX1_listed cX1_listed 8 (some .int), Cond.methodLink RL 170 yX5_fewestByListing, Cond.instanceMethod yX5_fewestByListing, Cond.selects RX5 yX5_fewestByListing yX5_fewestByListing, Cond.code yX5_fewestByListing cX5_fewestByListing 1 (some .int), Cond.methodLink RL 171 yL_orderAt, Cond.static yL_orderAt, Cond.codeWith yL_orderAt cL_orderAt 4 (some .int) [(0, 9, 12, 21)], Cond.methodLink RL 76 yX4_orderAt, Cond.instanceMethod yX4_orderAt, Cond.selects RX4 yX4_orderAt yX4_orderAt, Cond.code yX4_orderAt cX4_orderAt 3 (some .int), Cond.methodLink RX4 145 yX1_bestAt, Cond.instanceMethod yX1_bestAt, Cond.selects RX1 yX1_bestAt yX1_bestAt, Cond.code yX1_bestAt cX1_bestAt 2 (some .int), Cond.methodLink RL 173 yX5_orderAt, Cond.instanceMethod yX5_orderAt]
def wsL_law0_r28 : List Cond := [Cond.selects RX5 yX5_orderAt yX5_orderAt, Cond.code yX5_orderAt cX5_orderAt 3 (some .int), Cond.methodLink RL 174 yL_setJams, Cond.static yL_setJams, Cond.codeWith yL_setJams cL_setJams 5 (some .int) [(0, 10, 13, 21), (0, 10, 17, 13)], Cond.methodLink RL 79 yX4_setJams, Cond.instanceMethod yX4_setJams, Cond.selects RX4 yX4_setJams yX4_setJams, Cond.code yX4_setJams cX4_setJams 3 (some .int), Cond.methodLink RX4 158 yX0_changeJams, Cond.instanceMethod yX0_changeJams, Cond.selects RX0 yX0_changeJams yX0_changeJams, Cond.code yX0_changeJams cX0_changeJams 4 (some .int), Cond.methodLink RL 176 yX5_setJams, Cond.instanceMethod yX5_setJams, Cond.selects RX5 yX5_setJams yX5_setJams, Cond.code yX5_setJams cX5_setJams 4 (some .int), Cond.methodLink RL 177 yL_begin, Cond.static yL_begin, Cond.codeWith yL_begin cL_begin 3 (some .int) [(0, 8, 11, 15)], Cond.methodLink RL 82 yX4_begin, Cond.instanceMethod yX4_begin, Cond.selects RX4 yX4_begin yX4_begin, Cond.code yX4_begin cX4_begin 1 (some .int)]
def wsL_law0_r29 : List Cond := [Cond.methodLink RX4 163 yX0_start, Cond.instanceMethod yX0_start, Cond.selects RX0 yX0_start yX0_start, Cond.code yX0_start cX0_start 1 none, Cond.methodLink RX0 26 yX0_halt, Cond.methodLink RL 179 yX5_begin, Cond.instanceMethod yX5_begin, Cond.selects RX5 yX5_begin yX5_begin, Cond.code yX5_begin cX5_begin 2 (some .int), Cond.fieldLink RX5 125 "AssemblyPlannerModel" "putIn" "I", Cond.fieldLink RX5 128 "AssemblyPlannerModel" "built" "I", Cond.fieldLink RX5 131 "AssemblyPlannerModel" "clock" "I", Cond.fieldLink RX5 134 "AssemblyPlannerModel" "mounted" "I", Cond.methodLink RL 180 yL_step, Cond.static yL_step, Cond.codeWith yL_step cL_step 3 (some .int) [(0, 8, 11, 15)], Cond.methodLink RL 85 yX4_step, Cond.instanceMethod yX4_step, Cond.selects RX4 yX4_step yX4_step, Cond.code yX4_step cX4_step 2 (some .int), Cond.methodLink RX4 166 yX0_nextPlace, Cond.instanceMethod yX0_nextPlace, Cond.selects RX0 yX0_nextPlace yX0_nextPlace, Cond.code yX0_nextPlace cX0_nextPlace 1 (some .int)]
def wsL_law0_r30 : List Cond := [Cond.methodLink RX4 171 yX0_tryToPutIn, Cond.instanceMethod yX0_tryToPutIn, Cond.selects RX0 yX0_tryToPutIn yX0_tryToPutIn, Cond.code yX0_tryToPutIn cX0_tryToPutIn 2 (some .boolean), Cond.methodLink RX0 42 yX3_tool, Cond.methodLink RX0 47 yX0_mount, Cond.instanceMethod yX0_mount, Cond.selects RX0 yX0_mount yX0_mount, Cond.code yX0_mount cX0_mount 2 none, Cond.methodLink RX0 51 yX0_bypassed, Cond.instanceMethod yX0_bypassed, Cond.selects RX0 yX0_bypassed yX0_bypassed, Cond.code yX0_bypassed cX0_bypassed 2 (some .boolean), Cond.methodLink RX0 55 yX0_clearJam, Cond.instanceMethod yX0_clearJam, Cond.selects RX0 yX0_clearJam yX0_clearJam, Cond.code yX0_clearJam cX0_clearJam 2 none, Cond.methodLink RX0 58 yX0_putIn, Cond.instanceMethod yX0_putIn, Cond.selects RX0 yX0_putIn yX0_putIn, Cond.code yX0_putIn cX0_putIn 3 none, Cond.methodLink RX0 61 yX3_freeDirections, Cond.methodLink RL 182 yX5_step, Cond.instanceMethod yX5_step]
def wsL_law0_r31 : List Cond := [Cond.selects RX5 yX5_step yX5_step, Cond.code yX5_step cX5_step 3 (some .int), Cond.methodLink RX5 137 yX5_isPassed, Cond.instanceMethod yX5_isPassed, Cond.selects RX5 yX5_isPassed yX5_isPassed, Cond.code yX5_isPassed cX5_isPassed 2 (some .boolean), Cond.methodLink RL 183 yL_stepBack, Cond.static yL_stepBack, Cond.codeWith yL_stepBack cL_stepBack 3 (some .int) [(0, 8, 11, 15)], Cond.methodLink RL 88 yX4_stepBack, Cond.instanceMethod yX4_stepBack, Cond.selects RX4 yX4_stepBack yX4_stepBack, Cond.code yX4_stepBack cX4_stepBack 2 (some .int), Cond.methodLink RX4 174 yX0_lastPlace, Cond.instanceMethod yX0_lastPlace, Cond.selects RX0 yX0_lastPlace yX0_lastPlace, Cond.code yX0_lastPlace cX0_lastPlace 1 (some .int), Cond.methodLink RX4 179 yX0_takeOut, Cond.instanceMethod yX0_takeOut, Cond.selects RX0 yX0_takeOut yX0_takeOut, Cond.code yX0_takeOut cX0_takeOut 2 none, Cond.methodLink RL 185 yX5_stepBack, Cond.instanceMethod yX5_stepBack, Cond.selects RX5 yX5_stepBack yX5_stepBack]
def wsL_law0_r32 : List Cond := [Cond.code yX5_stepBack cX5_stepBack 2 (some .int), Cond.methodLink RL 186 yX4_built, Cond.instanceMethod yX4_built, Cond.selects RX4 yX4_built yX4_built, Cond.code yX4_built cX4_built 1 (some .int), Cond.methodLink RX4 182 yX0_partsIn, Cond.instanceMethod yX0_partsIn, Cond.selects RX0 yX0_partsIn yX0_partsIn, Cond.code yX0_partsIn cX0_partsIn 1 (some .int), Cond.methodLink RL 189 yX5_built, Cond.instanceMethod yX5_built, Cond.selects RX5 yX5_built yX5_built, Cond.code yX5_built cX5_built 1 (some .int), Cond.methodLink RL 190 yX4_clock, Cond.instanceMethod yX4_clock, Cond.selects RX4 yX4_clock yX4_clock, Cond.code yX4_clock cX4_clock 1 (some .int), Cond.methodLink RX4 185 yX0_timeSinceStart, Cond.instanceMethod yX0_timeSinceStart, Cond.selects RX0 yX0_timeSinceStart yX0_timeSinceStart, Cond.code yX0_timeSinceStart cX0_timeSinceStart 1 (some .int), Cond.methodLink RL 193 yX5_clock, Cond.instanceMethod yX5_clock, Cond.selects RX5 yX5_clock yX5_clock]
def wsL_law0_r33 : List Cond := [Cond.code yX5_clock cX5_clock 1 (some .int), Cond.methodLink RL 194 yX4_mounted, Cond.instanceMethod yX4_mounted, Cond.selects RX4 yX4_mounted yX4_mounted, Cond.code yX4_mounted cX4_mounted 1 (some .int), Cond.methodLink RX4 188 yX0_toolMounted, Cond.instanceMethod yX0_toolMounted, Cond.selects RX0 yX0_toolMounted yX0_toolMounted, Cond.code yX0_toolMounted cX0_toolMounted 1 (some .int), Cond.methodLink RL 197 yX5_mounted, Cond.instanceMethod yX5_mounted, Cond.selects RX5 yX5_mounted yX5_mounted, Cond.code yX5_mounted cX5_mounted 1 (some .int), Cond.methodLink RL 198 yL_isBypassed, Cond.static yL_isBypassed, Cond.codeWith yL_isBypassed cL_isBypassed 4 (some .int) [(0, 16, 19, 21)], Cond.methodLink RL 91 yX4_isBypassed, Cond.instanceMethod yX4_isBypassed, Cond.selects RX4 yX4_isBypassed yX4_isBypassed, Cond.code yX4_isBypassed cX4_isBypassed 2 (some .boolean), Cond.methodLink RX4 191 yX0_bypassed, Cond.methodLink RL 200 yX5_isBypassed, Cond.instanceMethod yX5_isBypassed, Cond.selects RX5 yX5_isBypassed yX5_isBypassed]
def wsL_law0_r34 : List Cond := [Cond.code yX5_isBypassed cX5_isBypassed 2 (some .boolean)]
def wsL_law0 : List Cond := (wsL_law0_r1 ++ (wsL_law0_r2 ++ (wsL_law0_r3 ++ (wsL_law0_r4 ++ (wsL_law0_r5 ++ (wsL_law0_r6 ++ (wsL_law0_r7 ++ (wsL_law0_r8 ++ (wsL_law0_r9 ++ (wsL_law0_r10 ++ (wsL_law0_r11 ++ (wsL_law0_r12 ++ (wsL_law0_r13 ++ (wsL_law0_r14 ++ (wsL_law0_r15 ++ (wsL_law0_r16 ++ (wsL_law0_r17 ++ (wsL_law0_r18 ++ (wsL_law0_r19 ++ (wsL_law0_r20 ++ (wsL_law0_r21 ++ (wsL_law0_r22 ++ (wsL_law0_r23 ++ (wsL_law0_r24 ++ (wsL_law0_r25 ++ (wsL_law0_r26 ++ (wsL_law0_r27 ++ (wsL_law0_r28 ++ (wsL_law0_r29 ++ (wsL_law0_r30 ++ (wsL_law0_r31 ++ (wsL_law0_r32 ++ (wsL_law0_r33 ++ wsL_law0_r34))))))))))))))))))))))))))))))))) ++ wsX40 ++ wsX50 ++ wsX30 ++ wsX20 ++ wsX10 ++ wsX00 ++ ([] : List Cond)
def wsL_law : List Cond := wsL_law0 ++ (vx_atS RX4 51 "java/lang/IllegalStateException" ["java/lang/RuntimeException", "java/lang/Exception"]).filter goodWord ++ (vx_atS RX4 157 "java/lang/IllegalArgumentException" ["java/lang/RuntimeException", "java/lang/Exception"]).filter goodWord ++ (vx_atS RX4 152 "java/lang/IndexOutOfBoundsException" ["java/lang/RuntimeException", "java/lang/Exception"]).filter goodWord
end
section
theorem dX0_init_0 : decode cX0_init 0 = .ok (.aload_n 0, 1) := by decide +kernel
theorem dX0_init_1 : decode cX0_init 1 = .ok (.invokespecial 3, 3) := by decide +kernel
theorem dX0_init_4 : decode cX0_init 4 = .ok (.aload_n 0, 1) := by decide +kernel
theorem dX0_init_5 : decode cX0_init 5 = .ok (.bipush 8, 2) := by decide +kernel
theorem dX0_init_7 : decode cX0_init 7 = .ok (.newarray .int, 2) := by decide +kernel
theorem dX0_init_9 : decode cX0_init 9 = .ok (.putfield 9, 3) := by decide +kernel
theorem dX0_init_12 : decode cX0_init 12 = .ok (.aload_n 0, 1) := by decide +kernel
theorem dX0_init_13 : decode cX0_init 13 = .ok (.bipush 8, 2) := by decide +kernel
theorem dX0_init_15 : decode cX0_init 15 = .ok (.newarray .int, 2) := by decide +kernel
theorem dX0_init_17 : decode cX0_init 17 = .ok (.putfield 15, 3) := by decide +kernel
theorem dX0_init_20 : decode cX0_init 20 = .ok (.aload_n 0, 1) := by decide +kernel
theorem dX0_init_21 : decode cX0_init 21 = .ok (.iconst (-1), 1) := by decide +kernel
theorem dX0_init_22 : decode cX0_init 22 = .ok (.putfield 18, 3) := by decide +kernel
theorem dX0_init_25 : decode cX0_init 25 = .ok (.aload_n 0, 1) := by decide +kernel
theorem dX0_init_26 : decode cX0_init 26 = .ok (.aload_n 1, 1) := by decide +kernel
theorem dX0_init_27 : decode cX0_init 27 = .ok (.putfield 22, 3) := by decide +kernel
theorem dX0_init_30 : decode cX0_init 30 = .ok (.return_, 1) := by decide +kernel
theorem dX0_changeJams_0 : decode cX0_changeJams 0 = .ok (.aload_n 0, 1) := by decide +kernel
theorem dX0_changeJams_1 : decode cX0_changeJams 1 = .ok (.getfield 9, 3) := by decide +kernel
theorem dX0_changeJams_4 : decode cX0_changeJams 4 = .ok (.iload_n 1, 1) := by decide +kernel
theorem dX0_changeJams_5 : decode cX0_changeJams 5 = .ok (.iaload, 1) := by decide +kernel
theorem dX0_changeJams_6 : decode cX0_changeJams 6 = .ok (.istore_n 3, 1) := by decide +kernel
theorem dX0_changeJams_7 : decode cX0_changeJams 7 = .ok (.aload_n 0, 1) := by decide +kernel
theorem dX0_changeJams_8 : decode cX0_changeJams 8 = .ok (.getfield 9, 3) := by decide +kernel
theorem dX0_changeJams_11 : decode cX0_changeJams 11 = .ok (.iload_n 1, 1) := by decide +kernel
theorem dX0_changeJams_12 : decode cX0_changeJams 12 = .ok (.iload_n 2, 1) := by decide +kernel
theorem dX0_changeJams_13 : decode cX0_changeJams 13 = .ok (.iastore, 1) := by decide +kernel
theorem dX0_changeJams_14 : decode cX0_changeJams 14 = .ok (.iload_n 3, 1) := by decide +kernel
theorem dX0_changeJams_15 : decode cX0_changeJams 15 = .ok (.ireturn, 1) := by decide +kernel
set_option maxRecDepth 20000 in
theorem ggX0_start_X0_halt : GoodIn wsX0_start wsX0_halt := goodIn_r _ [6, 1, 7, 8, 9, 10, 11, 12, 13, 14, 15, 16, 17, 18, 19] (by decide +kernel) (by decide +kernel)
set_option maxRecDepth 20000 in
theorem gX0_start_X0_halt : GoodIn wsX0_start (wsV RX0 26 RX0 yX0_halt wsX0_halt) := goodIn_app (goodIn_of _ (by decide +kernel)) ggX0_start_X0_halt
theorem dX0_start_0 : decode cX0_start 0 = .ok (.aload_n 0, 1) := by decide +kernel
theorem dX0_start_1 : decode cX0_start 1 = .ok (.invokevirtual 26, 3) := by decide +kernel
theorem dX0_start_4 : decode cX0_start 4 = .ok (.aload_n 0, 1) := by decide +kernel
theorem dX0_start_5 : decode cX0_start 5 = .ok (.iconst 1, 1) := by decide +kernel
theorem dX0_start_6 : decode cX0_start 6 = .ok (.putfield 29, 3) := by decide +kernel
theorem dX0_start_9 : decode cX0_start 9 = .ok (.return_, 1) := by decide +kernel
theorem dX0_halt_0 : decode cX0_halt 0 = .ok (.aload_n 0, 1) := by decide +kernel
theorem dX0_halt_1 : decode cX0_halt 1 = .ok (.iconst 0, 1) := by decide +kernel
theorem dX0_halt_2 : decode cX0_halt 2 = .ok (.putfield 29, 3) := by decide +kernel
theorem dX0_halt_5 : decode cX0_halt 5 = .ok (.aload_n 0, 1) := by decide +kernel
theorem dX0_halt_6 : decode cX0_halt 6 = .ok (.iconst 0, 1) := by decide +kernel
theorem dX0_halt_7 : decode cX0_halt 7 = .ok (.putfield 33, 3) := by decide +kernel
theorem dX0_halt_10 : decode cX0_halt 10 = .ok (.aload_n 0, 1) := by decide +kernel
theorem dX0_halt_11 : decode cX0_halt 11 = .ok (.iconst 0, 1) := by decide +kernel
theorem dX0_halt_12 : decode cX0_halt 12 = .ok (.putfield 36, 3) := by decide +kernel
theorem dX0_halt_15 : decode cX0_halt 15 = .ok (.aload_n 0, 1) := by decide +kernel
theorem dX0_halt_16 : decode cX0_halt 16 = .ok (.iconst 0, 1) := by decide +kernel
theorem dX0_halt_17 : decode cX0_halt 17 = .ok (.putfield 39, 3) := by decide +kernel
theorem dX0_halt_20 : decode cX0_halt 20 = .ok (.aload_n 0, 1) := by decide +kernel
theorem dX0_halt_21 : decode cX0_halt 21 = .ok (.iconst (-1), 1) := by decide +kernel
theorem dX0_halt_22 : decode cX0_halt 22 = .ok (.putfield 18, 3) := by decide +kernel
theorem dX0_halt_25 : decode cX0_halt 25 = .ok (.iconst 0, 1) := by decide +kernel
theorem dX0_halt_26 : decode cX0_halt 26 = .ok (.istore_n 1, 1) := by decide +kernel
theorem dX0_halt_27 : decode cX0_halt 27 = .ok (.iload_n 1, 1) := by decide +kernel
theorem dX0_halt_28 : decode cX0_halt 28 = .ok (.bipush 8, 2) := by decide +kernel
theorem dX0_halt_30 : decode cX0_halt 30 = .ok (.if_icmp .ge 16, 3) := by decide +kernel
theorem dX0_halt_33 : decode cX0_halt 33 = .ok (.aload_n 0, 1) := by decide +kernel
theorem dX0_halt_34 : decode cX0_halt 34 = .ok (.getfield 15, 3) := by decide +kernel
theorem dX0_halt_37 : decode cX0_halt 37 = .ok (.iload_n 1, 1) := by decide +kernel
theorem dX0_halt_38 : decode cX0_halt 38 = .ok (.iconst 0, 1) := by decide +kernel
theorem dX0_halt_39 : decode cX0_halt 39 = .ok (.iastore, 1) := by decide +kernel
theorem dX0_halt_40 : decode cX0_halt 40 = .ok (.iinc 1 1, 3) := by decide +kernel
theorem dX0_halt_43 : decode cX0_halt 43 = .ok (.goto (-16), 3) := by decide +kernel
theorem dX0_halt_46 : decode cX0_halt 46 = .ok (.return_, 1) := by decide +kernel
theorem dX0_nextPlace_0 : decode cX0_nextPlace 0 = .ok (.aload_n 0, 1) := by decide +kernel
theorem dX0_nextPlace_1 : decode cX0_nextPlace 1 = .ok (.getfield 29, 3) := by decide +kernel
theorem dX0_nextPlace_4 : decode cX0_nextPlace 4 = .ok (.ifCond .eq 10, 3) := by decide +kernel
theorem dX0_nextPlace_7 : decode cX0_nextPlace 7 = .ok (.aload_n 0, 1) := by decide +kernel
theorem dX0_nextPlace_8 : decode cX0_nextPlace 8 = .ok (.getfield 33, 3) := by decide +kernel
theorem dX0_nextPlace_11 : decode cX0_nextPlace 11 = .ok (.goto 4, 3) := by decide +kernel
theorem dX0_nextPlace_14 : decode cX0_nextPlace 14 = .ok (.iconst (-1), 1) := by decide +kernel
theorem dX0_nextPlace_15 : decode cX0_nextPlace 15 = .ok (.ireturn, 1) := by decide +kernel
theorem dX0_lastPlace_0 : decode cX0_lastPlace 0 = .ok (.aload_n 0, 1) := by decide +kernel
theorem dX0_lastPlace_1 : decode cX0_lastPlace 1 = .ok (.getfield 33, 3) := by decide +kernel
theorem dX0_lastPlace_4 : decode cX0_lastPlace 4 = .ok (.ifCond .le 12, 3) := by decide +kernel
theorem dX0_lastPlace_7 : decode cX0_lastPlace 7 = .ok (.aload_n 0, 1) := by decide +kernel
theorem dX0_lastPlace_8 : decode cX0_lastPlace 8 = .ok (.getfield 33, 3) := by decide +kernel
theorem dX0_lastPlace_11 : decode cX0_lastPlace 11 = .ok (.iconst 1, 1) := by decide +kernel
theorem dX0_lastPlace_12 : decode cX0_lastPlace 12 = .ok (.isub, 1) := by decide +kernel
theorem dX0_lastPlace_13 : decode cX0_lastPlace 13 = .ok (.goto 4, 3) := by decide +kernel
theorem dX0_lastPlace_16 : decode cX0_lastPlace 16 = .ok (.iconst (-1), 1) := by decide +kernel
theorem dX0_lastPlace_17 : decode cX0_lastPlace 17 = .ok (.ireturn, 1) := by decide +kernel
set_option maxRecDepth 20000 in
theorem ggX0_tryToPutIn_X3_tool : GoodIn wsX0_tryToPutIn wsX3_tool := goodIn_r _ [8, 9, 44, 45, 46, 47, 48, 49] (by decide +kernel) (by decide +kernel)
set_option maxRecDepth 20000 in
theorem gX0_tryToPutIn_X3_tool : GoodIn wsX0_tryToPutIn (wsV RX0 42 RX3 yX3_tool wsX3_tool) := goodIn_app (goodIn_of _ (by decide +kernel)) ggX0_tryToPutIn_X3_tool
set_option maxRecDepth 20000 in
theorem ggX0_tryToPutIn_X0_mount : GoodIn wsX0_tryToPutIn wsX0_mount := goodIn_r _ [14, 15, 3, 36, 37, 38, 39, 40, 41, 42, 43] (by decide +kernel) (by decide +kernel)
set_option maxRecDepth 20000 in
theorem gX0_tryToPutIn_X0_mount : GoodIn wsX0_tryToPutIn (wsV RX0 47 RX0 yX0_mount wsX0_mount) := goodIn_app (goodIn_of _ (by decide +kernel)) ggX0_tryToPutIn_X0_mount
set_option maxRecDepth 20000 in
theorem ggX0_tryToPutIn_X0_bypassed : GoodIn wsX0_tryToPutIn wsX0_bypassed := goodIn_r _ [19, 20, 36, 37, 38, 39, 40, 41, 42, 43] (by decide +kernel) (by decide +kernel)
set_option maxRecDepth 20000 in
theorem gX0_tryToPutIn_X0_bypassed : GoodIn wsX0_tryToPutIn (wsV RX0 51 RX0 yX0_bypassed wsX0_bypassed) := goodIn_app (goodIn_of _ (by decide +kernel)) ggX0_tryToPutIn_X0_bypassed
set_option maxRecDepth 20000 in
theorem ggX0_tryToPutIn_X0_clearJam : GoodIn wsX0_tryToPutIn wsX0_clearJam := goodIn_r _ [24, 2, 20, 3, 36, 37, 38, 39, 40, 41, 42, 43] (by decide +kernel) (by decide +kernel)
set_option maxRecDepth 20000 in
theorem gX0_tryToPutIn_X0_clearJam : GoodIn wsX0_tryToPutIn (wsV RX0 55 RX0 yX0_clearJam wsX0_clearJam) := goodIn_app (goodIn_of _ (by decide +kernel)) ggX0_tryToPutIn_X0_clearJam
set_option maxRecDepth 20000 in
theorem ggX0_tryToPutIn_X0_putIn : GoodIn wsX0_tryToPutIn wsX0_putIn := goodIn_r _ [28, 29, 30, 1, 3, 31, 32, 33, 7, 34, 35, 36, 37, 38, 39, 40, 41, 42, 43, 44, 45, 46, 47, 48, 49] (by decide +kernel) (by decide +kernel)
set_option maxRecDepth 20000 in
theorem gX0_tryToPutIn_X0_putIn : GoodIn wsX0_tryToPutIn (wsV RX0 58 RX0 yX0_putIn wsX0_putIn) := goodIn_app (goodIn_of _ (by decide +kernel)) ggX0_tryToPutIn_X0_putIn
theorem dX0_tryToPutIn_0 : decode cX0_tryToPutIn 0 = .ok (.aload_n 0, 1) := by decide +kernel
theorem dX0_tryToPutIn_1 : decode cX0_tryToPutIn 1 = .ok (.aload_n 0, 1) := by decide +kernel
theorem dX0_tryToPutIn_2 : decode cX0_tryToPutIn 2 = .ok (.getfield 22, 3) := by decide +kernel
theorem dX0_tryToPutIn_5 : decode cX0_tryToPutIn 5 = .ok (.iload_n 1, 1) := by decide +kernel
theorem dX0_tryToPutIn_6 : decode cX0_tryToPutIn 6 = .ok (.invokevirtual 42, 3) := by decide +kernel
theorem dX0_tryToPutIn_9 : decode cX0_tryToPutIn 9 = .ok (.invokevirtual 47, 3) := by decide +kernel
theorem dX0_tryToPutIn_12 : decode cX0_tryToPutIn 12 = .ok (.aload_n 0, 1) := by decide +kernel
theorem dX0_tryToPutIn_13 : decode cX0_tryToPutIn 13 = .ok (.getfield 9, 3) := by decide +kernel
theorem dX0_tryToPutIn_16 : decode cX0_tryToPutIn 16 = .ok (.iload_n 1, 1) := by decide +kernel
theorem dX0_tryToPutIn_17 : decode cX0_tryToPutIn 17 = .ok (.iaload, 1) := by decide +kernel
theorem dX0_tryToPutIn_18 : decode cX0_tryToPutIn 18 = .ok (.ifCond .le 18, 3) := by decide +kernel
theorem dX0_tryToPutIn_21 : decode cX0_tryToPutIn 21 = .ok (.aload_n 0, 1) := by decide +kernel
theorem dX0_tryToPutIn_22 : decode cX0_tryToPutIn 22 = .ok (.iload_n 1, 1) := by decide +kernel
theorem dX0_tryToPutIn_23 : decode cX0_tryToPutIn 23 = .ok (.invokevirtual 51, 3) := by decide +kernel
theorem dX0_tryToPutIn_26 : decode cX0_tryToPutIn 26 = .ok (.ifCond .ne 10, 3) := by decide +kernel
theorem dX0_tryToPutIn_29 : decode cX0_tryToPutIn 29 = .ok (.aload_n 0, 1) := by decide +kernel
theorem dX0_tryToPutIn_30 : decode cX0_tryToPutIn 30 = .ok (.iload_n 1, 1) := by decide +kernel
theorem dX0_tryToPutIn_31 : decode cX0_tryToPutIn 31 = .ok (.invokevirtual 55, 3) := by decide +kernel
theorem dX0_tryToPutIn_34 : decode cX0_tryToPutIn 34 = .ok (.iconst 0, 1) := by decide +kernel
theorem dX0_tryToPutIn_35 : decode cX0_tryToPutIn 35 = .ok (.ireturn, 1) := by decide +kernel
theorem dX0_tryToPutIn_36 : decode cX0_tryToPutIn 36 = .ok (.aload_n 0, 1) := by decide +kernel
theorem dX0_tryToPutIn_37 : decode cX0_tryToPutIn 37 = .ok (.dup, 1) := by decide +kernel
theorem dX0_tryToPutIn_38 : decode cX0_tryToPutIn 38 = .ok (.getfield 39, 3) := by decide +kernel
theorem dX0_tryToPutIn_41 : decode cX0_tryToPutIn 41 = .ok (.aload_n 0, 1) := by decide +kernel
theorem dX0_tryToPutIn_42 : decode cX0_tryToPutIn 42 = .ok (.iload_n 1, 1) := by decide +kernel
theorem dX0_tryToPutIn_43 : decode cX0_tryToPutIn 43 = .ok (.invokevirtual 51, 3) := by decide +kernel
theorem dX0_tryToPutIn_46 : decode cX0_tryToPutIn 46 = .ok (.ifCond .eq 7, 3) := by decide +kernel
theorem dX0_tryToPutIn_49 : decode cX0_tryToPutIn 49 = .ok (.iconst 4, 1) := by decide +kernel
theorem dX0_tryToPutIn_50 : decode cX0_tryToPutIn 50 = .ok (.goto 4, 3) := by decide +kernel
theorem dX0_tryToPutIn_53 : decode cX0_tryToPutIn 53 = .ok (.iconst 1, 1) := by decide +kernel
theorem dX0_tryToPutIn_54 : decode cX0_tryToPutIn 54 = .ok (.iadd, 1) := by decide +kernel
theorem dX0_tryToPutIn_55 : decode cX0_tryToPutIn 55 = .ok (.putfield 39, 3) := by decide +kernel
theorem dX0_tryToPutIn_58 : decode cX0_tryToPutIn 58 = .ok (.aload_n 0, 1) := by decide +kernel
theorem dX0_tryToPutIn_59 : decode cX0_tryToPutIn 59 = .ok (.iload_n 1, 1) := by decide +kernel
theorem dX0_tryToPutIn_60 : decode cX0_tryToPutIn 60 = .ok (.invokevirtual 58, 3) := by decide +kernel
theorem dX0_tryToPutIn_63 : decode cX0_tryToPutIn 63 = .ok (.iconst 1, 1) := by decide +kernel
theorem dX0_tryToPutIn_64 : decode cX0_tryToPutIn 64 = .ok (.ireturn, 1) := by decide +kernel
theorem dX0_takeOut_0 : decode cX0_takeOut 0 = .ok (.aload_n 0, 1) := by decide +kernel
theorem dX0_takeOut_1 : decode cX0_takeOut 1 = .ok (.dup, 1) := by decide +kernel
theorem dX0_takeOut_2 : decode cX0_takeOut 2 = .ok (.getfield 36, 3) := by decide +kernel
theorem dX0_takeOut_5 : decode cX0_takeOut 5 = .ok (.iconst 1, 1) := by decide +kernel
theorem dX0_takeOut_6 : decode cX0_takeOut 6 = .ok (.iload_n 1, 1) := by decide +kernel
theorem dX0_takeOut_7 : decode cX0_takeOut 7 = .ok (.ishl, 1) := by decide +kernel
theorem dX0_takeOut_8 : decode cX0_takeOut 8 = .ok (.iconst (-1), 1) := by decide +kernel
theorem dX0_takeOut_9 : decode cX0_takeOut 9 = .ok (.ixor, 1) := by decide +kernel
theorem dX0_takeOut_10 : decode cX0_takeOut 10 = .ok (.iand, 1) := by decide +kernel
theorem dX0_takeOut_11 : decode cX0_takeOut 11 = .ok (.putfield 36, 3) := by decide +kernel
theorem dX0_takeOut_14 : decode cX0_takeOut 14 = .ok (.aload_n 0, 1) := by decide +kernel
theorem dX0_takeOut_15 : decode cX0_takeOut 15 = .ok (.dup, 1) := by decide +kernel
theorem dX0_takeOut_16 : decode cX0_takeOut 16 = .ok (.getfield 33, 3) := by decide +kernel
theorem dX0_takeOut_19 : decode cX0_takeOut 19 = .ok (.iconst 1, 1) := by decide +kernel
theorem dX0_takeOut_20 : decode cX0_takeOut 20 = .ok (.isub, 1) := by decide +kernel
theorem dX0_takeOut_21 : decode cX0_takeOut 21 = .ok (.putfield 33, 3) := by decide +kernel
theorem dX0_takeOut_24 : decode cX0_takeOut 24 = .ok (.aload_n 0, 1) := by decide +kernel
theorem dX0_takeOut_25 : decode cX0_takeOut 25 = .ok (.dup, 1) := by decide +kernel
theorem dX0_takeOut_26 : decode cX0_takeOut 26 = .ok (.getfield 39, 3) := by decide +kernel
theorem dX0_takeOut_29 : decode cX0_takeOut 29 = .ok (.iconst 2, 1) := by decide +kernel
theorem dX0_takeOut_30 : decode cX0_takeOut 30 = .ok (.iadd, 1) := by decide +kernel
theorem dX0_takeOut_31 : decode cX0_takeOut 31 = .ok (.putfield 39, 3) := by decide +kernel
theorem dX0_takeOut_34 : decode cX0_takeOut 34 = .ok (.return_, 1) := by decide +kernel
theorem dX0_partsIn_0 : decode cX0_partsIn 0 = .ok (.aload_n 0, 1) := by decide +kernel
theorem dX0_partsIn_1 : decode cX0_partsIn 1 = .ok (.getfield 36, 3) := by decide +kernel
theorem dX0_partsIn_4 : decode cX0_partsIn 4 = .ok (.ireturn, 1) := by decide +kernel
theorem dX0_timeSinceStart_0 : decode cX0_timeSinceStart 0 = .ok (.aload_n 0, 1) := by decide +kernel
theorem dX0_timeSinceStart_1 : decode cX0_timeSinceStart 1 = .ok (.getfield 39, 3) := by decide +kernel
theorem dX0_timeSinceStart_4 : decode cX0_timeSinceStart 4 = .ok (.ireturn, 1) := by decide +kernel
theorem dX0_toolMounted_0 : decode cX0_toolMounted 0 = .ok (.aload_n 0, 1) := by decide +kernel
theorem dX0_toolMounted_1 : decode cX0_toolMounted 1 = .ok (.getfield 18, 3) := by decide +kernel
theorem dX0_toolMounted_4 : decode cX0_toolMounted 4 = .ok (.ireturn, 1) := by decide +kernel
theorem dX0_bypassed_0 : decode cX0_bypassed 0 = .ok (.aload_n 0, 1) := by decide +kernel
theorem dX0_bypassed_1 : decode cX0_bypassed 1 = .ok (.getfield 15, 3) := by decide +kernel
theorem dX0_bypassed_4 : decode cX0_bypassed 4 = .ok (.iload_n 1, 1) := by decide +kernel
theorem dX0_bypassed_5 : decode cX0_bypassed 5 = .ok (.iaload, 1) := by decide +kernel
theorem dX0_bypassed_6 : decode cX0_bypassed 6 = .ok (.iconst 2, 1) := by decide +kernel
theorem dX0_bypassed_7 : decode cX0_bypassed 7 = .ok (.if_icmp .lt 7, 3) := by decide +kernel
theorem dX0_bypassed_10 : decode cX0_bypassed 10 = .ok (.iconst 1, 1) := by decide +kernel
theorem dX0_bypassed_11 : decode cX0_bypassed 11 = .ok (.goto 4, 3) := by decide +kernel
theorem dX0_bypassed_14 : decode cX0_bypassed 14 = .ok (.iconst 0, 1) := by decide +kernel
theorem dX0_bypassed_15 : decode cX0_bypassed 15 = .ok (.ireturn, 1) := by decide +kernel
theorem dX0_mount_0 : decode cX0_mount 0 = .ok (.aload_n 0, 1) := by decide +kernel
theorem dX0_mount_1 : decode cX0_mount 1 = .ok (.getfield 18, 3) := by decide +kernel
theorem dX0_mount_4 : decode cX0_mount 4 = .ok (.iload_n 1, 1) := by decide +kernel
theorem dX0_mount_5 : decode cX0_mount 5 = .ok (.if_icmp .eq 18, 3) := by decide +kernel
theorem dX0_mount_8 : decode cX0_mount 8 = .ok (.aload_n 0, 1) := by decide +kernel
theorem dX0_mount_9 : decode cX0_mount 9 = .ok (.iload_n 1, 1) := by decide +kernel
theorem dX0_mount_10 : decode cX0_mount 10 = .ok (.putfield 18, 3) := by decide +kernel
theorem dX0_mount_13 : decode cX0_mount 13 = .ok (.aload_n 0, 1) := by decide +kernel
theorem dX0_mount_14 : decode cX0_mount 14 = .ok (.dup, 1) := by decide +kernel
theorem dX0_mount_15 : decode cX0_mount 15 = .ok (.getfield 39, 3) := by decide +kernel
theorem dX0_mount_18 : decode cX0_mount 18 = .ok (.iconst 5, 1) := by decide +kernel
theorem dX0_mount_19 : decode cX0_mount 19 = .ok (.iadd, 1) := by decide +kernel
theorem dX0_mount_20 : decode cX0_mount 20 = .ok (.putfield 39, 3) := by decide +kernel
theorem dX0_mount_23 : decode cX0_mount 23 = .ok (.return_, 1) := by decide +kernel
theorem dX0_clearJam_0 : decode cX0_clearJam 0 = .ok (.aload_n 0, 1) := by decide +kernel
theorem dX0_clearJam_1 : decode cX0_clearJam 1 = .ok (.getfield 9, 3) := by decide +kernel
theorem dX0_clearJam_4 : decode cX0_clearJam 4 = .ok (.iload_n 1, 1) := by decide +kernel
theorem dX0_clearJam_5 : decode cX0_clearJam 5 = .ok (.dup2, 1) := by decide +kernel
theorem dX0_clearJam_6 : decode cX0_clearJam 6 = .ok (.iaload, 1) := by decide +kernel
theorem dX0_clearJam_7 : decode cX0_clearJam 7 = .ok (.iconst 1, 1) := by decide +kernel
theorem dX0_clearJam_8 : decode cX0_clearJam 8 = .ok (.isub, 1) := by decide +kernel
theorem dX0_clearJam_9 : decode cX0_clearJam 9 = .ok (.iastore, 1) := by decide +kernel
theorem dX0_clearJam_10 : decode cX0_clearJam 10 = .ok (.aload_n 0, 1) := by decide +kernel
theorem dX0_clearJam_11 : decode cX0_clearJam 11 = .ok (.getfield 15, 3) := by decide +kernel
theorem dX0_clearJam_14 : decode cX0_clearJam 14 = .ok (.iload_n 1, 1) := by decide +kernel
theorem dX0_clearJam_15 : decode cX0_clearJam 15 = .ok (.dup2, 1) := by decide +kernel
theorem dX0_clearJam_16 : decode cX0_clearJam 16 = .ok (.iaload, 1) := by decide +kernel
theorem dX0_clearJam_17 : decode cX0_clearJam 17 = .ok (.iconst 1, 1) := by decide +kernel
theorem dX0_clearJam_18 : decode cX0_clearJam 18 = .ok (.iadd, 1) := by decide +kernel
theorem dX0_clearJam_19 : decode cX0_clearJam 19 = .ok (.iastore, 1) := by decide +kernel
theorem dX0_clearJam_20 : decode cX0_clearJam 20 = .ok (.aload_n 0, 1) := by decide +kernel
theorem dX0_clearJam_21 : decode cX0_clearJam 21 = .ok (.dup, 1) := by decide +kernel
theorem dX0_clearJam_22 : decode cX0_clearJam 22 = .ok (.getfield 39, 3) := by decide +kernel
theorem dX0_clearJam_25 : decode cX0_clearJam 25 = .ok (.iconst 3, 1) := by decide +kernel
theorem dX0_clearJam_26 : decode cX0_clearJam 26 = .ok (.iadd, 1) := by decide +kernel
theorem dX0_clearJam_27 : decode cX0_clearJam 27 = .ok (.putfield 39, 3) := by decide +kernel
theorem dX0_clearJam_30 : decode cX0_clearJam 30 = .ok (.return_, 1) := by decide +kernel
set_option maxRecDepth 20000 in
theorem ggX0_putIn_X3_freeDirections : GoodIn wsX0_putIn wsX3_freeDirections := goodIn_r _ [9, 10, 19, 20, 21, 22, 23, 24] (by decide +kernel) (by decide +kernel)
set_option maxRecDepth 20000 in
theorem gX0_putIn_X3_freeDirections : GoodIn wsX0_putIn (wsV RX0 61 RX3 yX3_freeDirections wsX3_freeDirections) := goodIn_app (goodIn_of _ (by decide +kernel)) ggX0_putIn_X3_freeDirections
theorem dX0_putIn_0 : decode cX0_putIn 0 = .ok (.aload_n 0, 1) := by decide +kernel
theorem dX0_putIn_1 : decode cX0_putIn 1 = .ok (.dup, 1) := by decide +kernel
theorem dX0_putIn_2 : decode cX0_putIn 2 = .ok (.getfield 36, 3) := by decide +kernel
theorem dX0_putIn_5 : decode cX0_putIn 5 = .ok (.iconst 1, 1) := by decide +kernel
theorem dX0_putIn_6 : decode cX0_putIn 6 = .ok (.iload_n 1, 1) := by decide +kernel
theorem dX0_putIn_7 : decode cX0_putIn 7 = .ok (.ishl, 1) := by decide +kernel
theorem dX0_putIn_8 : decode cX0_putIn 8 = .ok (.ior, 1) := by decide +kernel
theorem dX0_putIn_9 : decode cX0_putIn 9 = .ok (.putfield 36, 3) := by decide +kernel
theorem dX0_putIn_12 : decode cX0_putIn 12 = .ok (.aload_n 0, 1) := by decide +kernel
theorem dX0_putIn_13 : decode cX0_putIn 13 = .ok (.dup, 1) := by decide +kernel
theorem dX0_putIn_14 : decode cX0_putIn 14 = .ok (.getfield 33, 3) := by decide +kernel
theorem dX0_putIn_17 : decode cX0_putIn 17 = .ok (.iconst 1, 1) := by decide +kernel
theorem dX0_putIn_18 : decode cX0_putIn 18 = .ok (.iadd, 1) := by decide +kernel
theorem dX0_putIn_19 : decode cX0_putIn 19 = .ok (.putfield 33, 3) := by decide +kernel
theorem dX0_putIn_22 : decode cX0_putIn 22 = .ok (.aload_n 0, 1) := by decide +kernel
theorem dX0_putIn_23 : decode cX0_putIn 23 = .ok (.getfield 22, 3) := by decide +kernel
theorem dX0_putIn_26 : decode cX0_putIn 26 = .ok (.aload_n 0, 1) := by decide +kernel
theorem dX0_putIn_27 : decode cX0_putIn 27 = .ok (.getfield 36, 3) := by decide +kernel
theorem dX0_putIn_30 : decode cX0_putIn 30 = .ok (.iload_n 1, 1) := by decide +kernel
theorem dX0_putIn_31 : decode cX0_putIn 31 = .ok (.invokevirtual 61, 3) := by decide +kernel
theorem dX0_putIn_34 : decode cX0_putIn 34 = .ok (.bipush 16, 2) := by decide +kernel
theorem dX0_putIn_36 : decode cX0_putIn 36 = .ok (.iand, 1) := by decide +kernel
theorem dX0_putIn_37 : decode cX0_putIn 37 = .ok (.ifCond .eq 7, 3) := by decide +kernel
theorem dX0_putIn_40 : decode cX0_putIn 40 = .ok (.iconst 1, 1) := by decide +kernel
theorem dX0_putIn_41 : decode cX0_putIn 41 = .ok (.goto 4, 3) := by decide +kernel
theorem dX0_putIn_44 : decode cX0_putIn 44 = .ok (.iconst 0, 1) := by decide +kernel
theorem dX0_putIn_45 : decode cX0_putIn 45 = .ok (.istore_n 2, 1) := by decide +kernel
theorem dX0_putIn_46 : decode cX0_putIn 46 = .ok (.aload_n 0, 1) := by decide +kernel
theorem dX0_putIn_47 : decode cX0_putIn 47 = .ok (.dup, 1) := by decide +kernel
theorem dX0_putIn_48 : decode cX0_putIn 48 = .ok (.getfield 39, 3) := by decide +kernel
theorem dX0_putIn_51 : decode cX0_putIn 51 = .ok (.iload_n 2, 1) := by decide +kernel
theorem dX0_putIn_52 : decode cX0_putIn 52 = .ok (.ifCond .eq 7, 3) := by decide +kernel
theorem dX0_putIn_55 : decode cX0_putIn 55 = .ok (.iconst 1, 1) := by decide +kernel
theorem dX0_putIn_56 : decode cX0_putIn 56 = .ok (.goto 4, 3) := by decide +kernel
theorem dX0_putIn_59 : decode cX0_putIn 59 = .ok (.iconst 2, 1) := by decide +kernel
theorem dX0_putIn_60 : decode cX0_putIn 60 = .ok (.iadd, 1) := by decide +kernel
theorem dX0_putIn_61 : decode cX0_putIn 61 = .ok (.putfield 39, 3) := by decide +kernel
theorem dX0_putIn_64 : decode cX0_putIn 64 = .ok (.return_, 1) := by decide +kernel
theorem dX1_init_0 : decode cX1_init 0 = .ok (.aload_n 0, 1) := by decide +kernel
theorem dX1_init_1 : decode cX1_init 1 = .ok (.invokespecial 3, 3) := by decide +kernel
theorem dX1_init_4 : decode cX1_init 4 = .ok (.aload_n 0, 1) := by decide +kernel
theorem dX1_init_5 : decode cX1_init 5 = .ok (.sipush 256, 3) := by decide +kernel
theorem dX1_init_8 : decode cX1_init 8 = .ok (.newarray .boolean, 2) := by decide +kernel
theorem dX1_init_10 : decode cX1_init 10 = .ok (.putfield 9, 3) := by decide +kernel
theorem dX1_init_13 : decode cX1_init 13 = .ok (.aload_n 0, 1) := by decide +kernel
theorem dX1_init_14 : decode cX1_init 14 = .ok (.sipush 256, 3) := by decide +kernel
theorem dX1_init_17 : decode cX1_init 17 = .ok (.newarray .int, 2) := by decide +kernel
theorem dX1_init_19 : decode cX1_init 19 = .ok (.putfield 15, 3) := by decide +kernel
theorem dX1_init_22 : decode cX1_init 22 = .ok (.aload_n 0, 1) := by decide +kernel
theorem dX1_init_23 : decode cX1_init 23 = .ok (.sipush 256, 3) := by decide +kernel
theorem dX1_init_26 : decode cX1_init 26 = .ok (.newarray .int, 2) := by decide +kernel
theorem dX1_init_28 : decode cX1_init 28 = .ok (.putfield 19, 3) := by decide +kernel
theorem dX1_init_31 : decode cX1_init 31 = .ok (.aload_n 0, 1) := by decide +kernel
theorem dX1_init_32 : decode cX1_init 32 = .ok (.sipush 1024, 3) := by decide +kernel
theorem dX1_init_35 : decode cX1_init 35 = .ok (.newarray .int, 2) := by decide +kernel
theorem dX1_init_37 : decode cX1_init 37 = .ok (.putfield 22, 3) := by decide +kernel
theorem dX1_init_40 : decode cX1_init 40 = .ok (.aload_n 0, 1) := by decide +kernel
theorem dX1_init_41 : decode cX1_init 41 = .ok (.bipush 8, 2) := by decide +kernel
theorem dX1_init_43 : decode cX1_init 43 = .ok (.newarray .int, 2) := by decide +kernel
theorem dX1_init_45 : decode cX1_init 45 = .ok (.putfield 25, 3) := by decide +kernel
theorem dX1_init_48 : decode cX1_init 48 = .ok (.aload_n 0, 1) := by decide +kernel
theorem dX1_init_49 : decode cX1_init 49 = .ok (.aload_n 1, 1) := by decide +kernel
theorem dX1_init_50 : decode cX1_init 50 = .ok (.putfield 28, 3) := by decide +kernel
theorem dX1_init_53 : decode cX1_init 53 = .ok (.return_, 1) := by decide +kernel
theorem dX1_forget_0 : decode cX1_forget 0 = .ok (.aload_n 0, 1) := by decide +kernel
theorem dX1_forget_1 : decode cX1_forget 1 = .ok (.iconst 0, 1) := by decide +kernel
theorem dX1_forget_2 : decode cX1_forget 2 = .ok (.putfield 32, 3) := by decide +kernel
theorem dX1_forget_5 : decode cX1_forget 5 = .ok (.return_, 1) := by decide +kernel
set_option maxRecDepth 20000 in
theorem ggX1_possible_X1_find : GoodIn wsX1_possible wsX1_find := goodIn_r _ [6, 7, 8, 9, 10, 1, 11, 12, 13, 14, 15, 16, 17, 18, 19, 20, 21, 22, 23, 24, 25, 26, 27, 28, 29, 30, 31, 32, 33, 34, 35, 36, 37, 38, 39, 40, 5, 41, 42, 43, 44, 45, 46, 47, 48, 49, 50, 51, 52, 53, 54, 55, 56, 57, 58, 59, 60, 61, 62, 63, 64, 65, 66, 67, 68, 69, 70, 71, 72, 73, 74, 75, 76, 77, 78, 79, 80, 81, 82, 83, 84, 85, 86, 87, 88, 89, 90, 91, 92, 93, 94, 95, 96] (by decide +kernel) (by decide +kernel)
set_option maxRecDepth 20000 in
theorem gX1_possible_X1_find : GoodIn wsX1_possible (wsV RX1 36 RX1 yX1_find wsX1_find) := goodIn_app (goodIn_of _ (by decide +kernel)) ggX1_possible_X1_find
theorem dX1_possible_0 : decode cX1_possible 0 = .ok (.aload_n 0, 1) := by decide +kernel
theorem dX1_possible_1 : decode cX1_possible 1 = .ok (.invokevirtual 36, 3) := by decide +kernel
theorem dX1_possible_4 : decode cX1_possible 4 = .ok (.aload_n 0, 1) := by decide +kernel
theorem dX1_possible_5 : decode cX1_possible 5 = .ok (.getfield 19, 3) := by decide +kernel
theorem dX1_possible_8 : decode cX1_possible 8 = .ok (.iconst 0, 1) := by decide +kernel
theorem dX1_possible_9 : decode cX1_possible 9 = .ok (.iaload, 1) := by decide +kernel
theorem dX1_possible_10 : decode cX1_possible 10 = .ok (.ireturn, 1) := by decide +kernel
set_option maxRecDepth 20000 in
theorem ggX1_fewestBySets_X1_find : GoodIn wsX1_fewestBySets wsX1_find := goodIn_r _ [6, 7, 8, 9, 10, 11, 12, 1, 13, 14, 15, 16, 17, 18, 19, 20, 21, 22, 23, 24, 25, 26, 27, 28, 29, 30, 31, 32, 33, 34, 35, 36, 37, 38, 39, 40, 5, 41, 42, 43, 44, 45, 46, 47, 48, 49, 50, 51, 52, 53, 54, 55, 56, 57, 58, 59, 60, 61, 62, 63, 64, 65, 66, 67, 68, 69, 70, 71, 72, 73, 74, 75, 76, 77, 78, 79, 80, 81, 82, 86, 87, 88, 89, 90, 91, 92, 93, 94, 95, 96, 97, 98, 99] (by decide +kernel) (by decide +kernel)
set_option maxRecDepth 20000 in
theorem gX1_fewestBySets_X1_find : GoodIn wsX1_fewestBySets (wsV RX1 36 RX1 yX1_find wsX1_find) := goodIn_app (goodIn_of _ (by decide +kernel)) ggX1_fewestBySets_X1_find
set_option maxRecDepth 20000 in
theorem ggX1_fewestBySets_X1_orNone : GoodIn wsX1_fewestBySets wsX1_orNone := goodIn_r _ [85] (by decide +kernel) (by decide +kernel)
set_option maxRecDepth 20000 in
theorem gX1_fewestBySets_X1_orNone : GoodIn wsX1_fewestBySets (va_wsS RX1 43 yX1_orNone wsX1_orNone) := goodIn_app (goodIn_of _ (by decide +kernel)) ggX1_fewestBySets_X1_orNone
theorem dX1_fewestBySets_0 : decode cX1_fewestBySets 0 = .ok (.aload_n 0, 1) := by decide +kernel
theorem dX1_fewestBySets_1 : decode cX1_fewestBySets 1 = .ok (.invokevirtual 36, 3) := by decide +kernel
theorem dX1_fewestBySets_4 : decode cX1_fewestBySets 4 = .ok (.aload_n 0, 1) := by decide +kernel
theorem dX1_fewestBySets_5 : decode cX1_fewestBySets 5 = .ok (.getfield 39, 3) := by decide +kernel
theorem dX1_fewestBySets_8 : decode cX1_fewestBySets 8 = .ok (.invokestatic 43, 3) := by decide +kernel
theorem dX1_fewestBySets_11 : decode cX1_fewestBySets 11 = .ok (.ireturn, 1) := by decide +kernel
set_option maxRecDepth 20000 in
theorem ggX1_fewestListed_X1_find : GoodIn wsX1_fewestListed wsX1_find := goodIn_r _ [5, 6, 7, 8, 9, 10, 11, 12, 13, 14, 15, 16, 17, 18, 19, 20, 21, 22, 23, 24, 25, 26, 27, 28, 29, 30, 31, 32, 33, 34, 35, 36, 37, 38, 39, 40, 4, 41, 42, 43, 44, 45, 46, 47, 48, 49, 50, 51, 52, 53, 54, 55, 56, 57, 58, 59, 60, 61, 62, 63, 64, 65, 66, 67, 68, 69, 70, 71, 72, 73, 74, 75, 76, 77, 78, 79, 80, 81, 82, 89, 90, 91, 92, 93, 94, 95, 96, 97, 98, 99, 100, 101, 102] (by decide +kernel) (by decide +kernel)
set_option maxRecDepth 20000 in
theorem gX1_fewestListed_X1_find : GoodIn wsX1_fewestListed (wsV RX1 36 RX1 yX1_find wsX1_find) := goodIn_app (goodIn_of _ (by decide +kernel)) ggX1_fewestListed_X1_find
set_option maxRecDepth 20000 in
theorem ggX1_fewestListed_X1_listed : GoodIn wsX1_fewestListed wsX1_listed := goodIn_r _ [85, 7, 9, 58, 59, 60, 61, 42, 43, 44, 16, 45, 18, 66, 67, 68, 69, 70, 83, 84, 4, 71, 72, 73, 89, 90, 91, 92, 93, 94, 95, 96, 97, 98, 99, 100, 101, 102] (by decide +kernel) (by decide +kernel)
set_option maxRecDepth 20000 in
theorem gX1_fewestListed_X1_listed : GoodIn wsX1_fewestListed (va_wsS RX1 47 yX1_listed wsX1_listed) := goodIn_app (goodIn_of _ (by decide +kernel)) ggX1_fewestListed_X1_listed
set_option maxRecDepth 20000 in
theorem ggX1_fewestListed_X1_orNone : GoodIn wsX1_fewestListed wsX1_orNone := goodIn_r _ [88] (by decide +kernel) (by decide +kernel)
set_option maxRecDepth 20000 in
theorem gX1_fewestListed_X1_orNone : GoodIn wsX1_fewestListed (va_wsS RX1 43 yX1_orNone wsX1_orNone) := goodIn_app (goodIn_of _ (by decide +kernel)) ggX1_fewestListed_X1_orNone
theorem dX1_fewestListed_0 : decode cX1_fewestListed 0 = .ok (.aload_n 0, 1) := by decide +kernel
theorem dX1_fewestListed_1 : decode cX1_fewestListed 1 = .ok (.invokevirtual 36, 3) := by decide +kernel
theorem dX1_fewestListed_4 : decode cX1_fewestListed 4 = .ok (.aload_n 0, 1) := by decide +kernel
theorem dX1_fewestListed_5 : decode cX1_fewestListed 5 = .ok (.iconst 0, 1) := by decide +kernel
theorem dX1_fewestListed_6 : decode cX1_fewestListed 6 = .ok (.iconst 0, 1) := by decide +kernel
theorem dX1_fewestListed_7 : decode cX1_fewestListed 7 = .ok (.iconst (-1), 1) := by decide +kernel
theorem dX1_fewestListed_8 : decode cX1_fewestListed 8 = .ok (.invokestatic 47, 3) := by decide +kernel
theorem dX1_fewestListed_11 : decode cX1_fewestListed 11 = .ok (.invokestatic 43, 3) := by decide +kernel
theorem dX1_fewestListed_14 : decode cX1_fewestListed 14 = .ok (.ireturn, 1) := by decide +kernel
set_option maxRecDepth 20000 in
theorem ggX1_bestAt_X3_count : GoodIn wsX1_bestAt wsX3_count := goodIn_r _ [8, 9, 91, 92, 93, 94, 95, 96] (by decide +kernel) (by decide +kernel)
set_option maxRecDepth 20000 in
theorem gX1_bestAt_X3_count : GoodIn wsX1_bestAt (wsV RX1 51 RX3 yX3_count wsX3_count) := goodIn_app (goodIn_of _ (by decide +kernel)) ggX1_bestAt_X3_count
set_option maxRecDepth 20000 in
theorem ggX1_bestAt_X1_find : GoodIn wsX1_bestAt wsX1_find := goodIn_r _ [14, 15, 1, 16, 17, 18, 19, 2, 20, 21, 22, 7, 23, 9, 24, 25, 26, 27, 28, 29, 30, 31, 32, 33, 34, 35, 36, 37, 38, 39, 40, 41, 42, 43, 44, 45, 13, 46, 4, 5, 6, 8, 47, 48, 49, 50, 51, 52, 53, 54, 55, 56, 57, 58, 59, 60, 61, 62, 63, 64, 65, 66, 67, 68, 69, 70, 71, 72, 73, 74, 75, 76, 77, 78, 3, 79, 80, 81, 82, 83, 84, 85, 86, 87, 88, 89, 90, 91, 92, 93, 94, 95, 96] (by decide +kernel) (by decide +kernel)
set_option maxRecDepth 20000 in
theorem gX1_bestAt_X1_find : GoodIn wsX1_bestAt (wsV RX1 36 RX1 yX1_find wsX1_find) := goodIn_app (goodIn_of _ (by decide +kernel)) ggX1_bestAt_X1_find
theorem dX1_bestAt_0 : decode cX1_bestAt 0 = .ok (.iload_n 1, 1) := by decide +kernel
theorem dX1_bestAt_1 : decode cX1_bestAt 1 = .ok (.ifCond .lt 14, 3) := by decide +kernel
theorem dX1_bestAt_4 : decode cX1_bestAt 4 = .ok (.iload_n 1, 1) := by decide +kernel
theorem dX1_bestAt_5 : decode cX1_bestAt 5 = .ok (.aload_n 0, 1) := by decide +kernel
theorem dX1_bestAt_6 : decode cX1_bestAt 6 = .ok (.getfield 28, 3) := by decide +kernel
theorem dX1_bestAt_9 : decode cX1_bestAt 9 = .ok (.invokevirtual 51, 3) := by decide +kernel
theorem dX1_bestAt_12 : decode cX1_bestAt 12 = .ok (.if_icmp .lt 5, 3) := by decide +kernel
theorem dX1_bestAt_15 : decode cX1_bestAt 15 = .ok (.iconst (-1), 1) := by decide +kernel
theorem dX1_bestAt_16 : decode cX1_bestAt 16 = .ok (.ireturn, 1) := by decide +kernel
theorem dX1_bestAt_17 : decode cX1_bestAt 17 = .ok (.aload_n 0, 1) := by decide +kernel
theorem dX1_bestAt_18 : decode cX1_bestAt 18 = .ok (.invokevirtual 36, 3) := by decide +kernel
theorem dX1_bestAt_21 : decode cX1_bestAt 21 = .ok (.aload_n 0, 1) := by decide +kernel
theorem dX1_bestAt_22 : decode cX1_bestAt 22 = .ok (.getfield 39, 3) := by decide +kernel
theorem dX1_bestAt_25 : decode cX1_bestAt 25 = .ok (.sipush 1000, 3) := by decide +kernel
theorem dX1_bestAt_28 : decode cX1_bestAt 28 = .ok (.if_icmp .ne 7, 3) := by decide +kernel
theorem dX1_bestAt_31 : decode cX1_bestAt 31 = .ok (.iconst (-1), 1) := by decide +kernel
theorem dX1_bestAt_32 : decode cX1_bestAt 32 = .ok (.goto 9, 3) := by decide +kernel
theorem dX1_bestAt_35 : decode cX1_bestAt 35 = .ok (.aload_n 0, 1) := by decide +kernel
theorem dX1_bestAt_36 : decode cX1_bestAt 36 = .ok (.getfield 25, 3) := by decide +kernel
theorem dX1_bestAt_39 : decode cX1_bestAt 39 = .ok (.iload_n 1, 1) := by decide +kernel
theorem dX1_bestAt_40 : decode cX1_bestAt 40 = .ok (.iaload, 1) := by decide +kernel
theorem dX1_bestAt_41 : decode cX1_bestAt 41 = .ok (.ireturn, 1) := by decide +kernel
theorem dX1_orNone_0 : decode cX1_orNone 0 = .ok (.iload_n 0, 1) := by decide +kernel
theorem dX1_orNone_1 : decode cX1_orNone 1 = .ok (.sipush 1000, 3) := by decide +kernel
theorem dX1_orNone_4 : decode cX1_orNone 4 = .ok (.if_icmp .ne 7, 3) := by decide +kernel
theorem dX1_orNone_7 : decode cX1_orNone 7 = .ok (.iconst (-1), 1) := by decide +kernel
theorem dX1_orNone_8 : decode cX1_orNone 8 = .ok (.goto 4, 3) := by decide +kernel
theorem dX1_orNone_11 : decode cX1_orNone 11 = .ok (.iload_n 0, 1) := by decide +kernel
theorem dX1_orNone_12 : decode cX1_orNone 12 = .ok (.ireturn, 1) := by decide +kernel
set_option maxRecDepth 20000 in
theorem ggX1_find_X3_all : GoodIn wsX1_find wsX3_all := goodIn_r _ [12, 13, 87, 88, 89, 90, 91, 92] (by decide +kernel) (by decide +kernel)
set_option maxRecDepth 20000 in
theorem gX1_find_X3_all : GoodIn wsX1_find (wsV RX1 57 RX3 yX3_all wsX3_all) := goodIn_app (goodIn_of _ (by decide +kernel)) ggX1_find_X3_all
set_option maxRecDepth 20000 in
theorem ggX1_find_X3_sound : GoodIn wsX1_find wsX3_sound := goodIn_r _ [17, 18, 19, 20, 21, 11, 22, 23, 24, 25, 26, 27, 28, 29, 30, 31, 32, 87, 88, 89, 90, 91, 92] (by decide +kernel) (by decide +kernel)
set_option maxRecDepth 20000 in
theorem gX1_find_X3_sound : GoodIn wsX1_find (wsV RX1 60 RX3 yX3_sound wsX3_sound) := goodIn_app (goodIn_of _ (by decide +kernel)) ggX1_find_X3_sound
set_option maxRecDepth 20000 in
theorem ggX1_find_X1_nextsOf : GoodIn wsX1_find wsX1_nextsOf := goodIn_r _ [37, 2, 3, 38, 39, 40, 11, 41, 13, 42, 43, 44, 45, 31, 79, 80, 81, 82, 83, 84, 85, 86, 87, 88, 89, 90, 91, 92] (by decide +kernel) (by decide +kernel)
set_option maxRecDepth 20000 in
theorem gX1_find_X1_nextsOf : GoodIn wsX1_find (wsV RX1 63 RX1 yX1_nextsOf wsX1_nextsOf) := goodIn_app (goodIn_of _ (by decide +kernel)) ggX1_find_X1_nextsOf
set_option maxRecDepth 20000 in
theorem ggX1_find_X1_ordersFrom : GoodIn wsX1_find wsX1_ordersFrom := goodIn_r _ [49, 2, 4, 5, 8, 9, 10, 11, 12, 13, 38, 39, 40, 41, 79, 80, 81, 82, 83, 84, 85, 86, 87, 88, 89, 90, 91, 92] (by decide +kernel) (by decide +kernel)
set_option maxRecDepth 20000 in
theorem gX1_find_X1_ordersFrom : GoodIn wsX1_find (wsV RX1 66 RX1 yX1_ordersFrom wsX1_ordersFrom) := goodIn_app (goodIn_of _ (by decide +kernel)) ggX1_find_X1_ordersFrom
set_option maxRecDepth 20000 in
theorem ggX1_find_X1_fewestFrom : GoodIn wsX1_find wsX1_fewestFrom := goodIn_r _ [53, 2, 4, 54, 55, 56, 57, 8, 9, 10, 11, 12, 13, 38, 39, 40, 41, 58, 59, 60, 36, 61, 6, 62, 63, 64, 65, 66, 67, 68, 69, 79, 80, 81, 82, 83, 84, 85, 86, 87, 88, 89, 90, 91, 92] (by decide +kernel) (by decide +kernel)
set_option maxRecDepth 20000 in
theorem gX1_find_X1_fewestFrom : GoodIn wsX1_find (wsV RX1 69 RX1 yX1_fewestFrom wsX1_fewestFrom) := goodIn_app (goodIn_of _ (by decide +kernel)) ggX1_find_X1_fewestFrom
set_option maxRecDepth 20000 in
theorem ggX1_find_X1_findBest : GoodIn wsX1_find wsX1_findBest := goodIn_r _ [73, 7, 2, 74, 38, 39, 40, 11, 41, 13, 75, 76, 77, 36, 78, 4, 58, 59, 60, 61, 6, 62, 63, 64, 65, 66, 67, 68, 69, 79, 80, 81, 82, 83, 84, 85, 86, 87, 88, 89, 90, 91, 92] (by decide +kernel) (by decide +kernel)
set_option maxRecDepth 20000 in
theorem gX1_find_X1_findBest : GoodIn wsX1_find (wsV RX1 73 RX1 yX1_findBest wsX1_findBest) := goodIn_app (goodIn_of _ (by decide +kernel)) ggX1_find_X1_findBest
theorem dX1_find_0 : decode cX1_find 0 = .ok (.aload_n 0, 1) := by decide +kernel
theorem dX1_find_1 : decode cX1_find 1 = .ok (.getfield 32, 3) := by decide +kernel
theorem dX1_find_4 : decode cX1_find 4 = .ok (.ifCond .eq 4, 3) := by decide +kernel
theorem dX1_find_7 : decode cX1_find 7 = .ok (.return_, 1) := by decide +kernel
theorem dX1_find_8 : decode cX1_find 8 = .ok (.aload_n 0, 1) := by decide +kernel
theorem dX1_find_9 : decode cX1_find 9 = .ok (.getfield 28, 3) := by decide +kernel
theorem dX1_find_12 : decode cX1_find 12 = .ok (.invokevirtual 57, 3) := by decide +kernel
theorem dX1_find_15 : decode cX1_find 15 = .ok (.istore_n 1, 1) := by decide +kernel
theorem dX1_find_16 : decode cX1_find 16 = .ok (.iload_n 1, 1) := by decide +kernel
theorem dX1_find_17 : decode cX1_find 17 = .ok (.ifCond .lt 74, 3) := by decide +kernel
theorem dX1_find_20 : decode cX1_find 20 = .ok (.aload_n 0, 1) := by decide +kernel
theorem dX1_find_21 : decode cX1_find 21 = .ok (.getfield 9, 3) := by decide +kernel
theorem dX1_find_24 : decode cX1_find 24 = .ok (.iload_n 1, 1) := by decide +kernel
theorem dX1_find_25 : decode cX1_find 25 = .ok (.aload_n 0, 1) := by decide +kernel
theorem dX1_find_26 : decode cX1_find 26 = .ok (.getfield 28, 3) := by decide +kernel
theorem dX1_find_29 : decode cX1_find 29 = .ok (.iload_n 1, 1) := by decide +kernel
theorem dX1_find_30 : decode cX1_find 30 = .ok (.invokevirtual 60, 3) := by decide +kernel
theorem dX1_find_33 : decode cX1_find 33 = .ok (.bastore, 1) := by decide +kernel
theorem dX1_find_34 : decode cX1_find 34 = .ok (.aload_n 0, 1) := by decide +kernel
theorem dX1_find_35 : decode cX1_find 35 = .ok (.getfield 15, 3) := by decide +kernel
theorem dX1_find_38 : decode cX1_find 38 = .ok (.iload_n 1, 1) := by decide +kernel
theorem dX1_find_39 : decode cX1_find 39 = .ok (.aload_n 0, 1) := by decide +kernel
theorem dX1_find_40 : decode cX1_find 40 = .ok (.iload_n 1, 1) := by decide +kernel
theorem dX1_find_41 : decode cX1_find 41 = .ok (.invokevirtual 63, 3) := by decide +kernel
theorem dX1_find_44 : decode cX1_find 44 = .ok (.iastore, 1) := by decide +kernel
theorem dX1_find_45 : decode cX1_find 45 = .ok (.aload_n 0, 1) := by decide +kernel
theorem dX1_find_46 : decode cX1_find 46 = .ok (.getfield 19, 3) := by decide +kernel
theorem dX1_find_49 : decode cX1_find 49 = .ok (.iload_n 1, 1) := by decide +kernel
theorem dX1_find_50 : decode cX1_find 50 = .ok (.aload_n 0, 1) := by decide +kernel
theorem dX1_find_51 : decode cX1_find 51 = .ok (.iload_n 1, 1) := by decide +kernel
theorem dX1_find_52 : decode cX1_find 52 = .ok (.invokevirtual 66, 3) := by decide +kernel
theorem dX1_find_55 : decode cX1_find 55 = .ok (.iastore, 1) := by decide +kernel
theorem dX1_find_56 : decode cX1_find 56 = .ok (.iconst 0, 1) := by decide +kernel
theorem dX1_find_57 : decode cX1_find 57 = .ok (.istore_n 2, 1) := by decide +kernel
theorem dX1_find_58 : decode cX1_find 58 = .ok (.iload_n 2, 1) := by decide +kernel
theorem dX1_find_59 : decode cX1_find 59 = .ok (.iconst 4, 1) := by decide +kernel
theorem dX1_find_60 : decode cX1_find 60 = .ok (.if_icmp .ge 25, 3) := by decide +kernel
theorem dX1_find_63 : decode cX1_find 63 = .ok (.aload_n 0, 1) := by decide +kernel
theorem dX1_find_64 : decode cX1_find 64 = .ok (.getfield 22, 3) := by decide +kernel
theorem dX1_find_67 : decode cX1_find 67 = .ok (.iload_n 1, 1) := by decide +kernel
theorem dX1_find_68 : decode cX1_find 68 = .ok (.iconst 4, 1) := by decide +kernel
theorem dX1_find_69 : decode cX1_find 69 = .ok (.imul, 1) := by decide +kernel
theorem dX1_find_70 : decode cX1_find 70 = .ok (.iload_n 2, 1) := by decide +kernel
theorem dX1_find_71 : decode cX1_find 71 = .ok (.iadd, 1) := by decide +kernel
theorem dX1_find_72 : decode cX1_find 72 = .ok (.aload_n 0, 1) := by decide +kernel
theorem dX1_find_73 : decode cX1_find 73 = .ok (.iload_n 1, 1) := by decide +kernel
theorem dX1_find_74 : decode cX1_find 74 = .ok (.iload_n 2, 1) := by decide +kernel
theorem dX1_find_75 : decode cX1_find 75 = .ok (.invokevirtual 69, 3) := by decide +kernel
theorem dX1_find_78 : decode cX1_find 78 = .ok (.iastore, 1) := by decide +kernel
theorem dX1_find_79 : decode cX1_find 79 = .ok (.iinc 2 1, 3) := by decide +kernel
theorem dX1_find_82 : decode cX1_find 82 = .ok (.goto (-24), 3) := by decide +kernel
theorem dX1_find_85 : decode cX1_find 85 = .ok (.iinc 1 (-1), 3) := by decide +kernel
theorem dX1_find_88 : decode cX1_find 88 = .ok (.goto (-72), 3) := by decide +kernel
theorem dX1_find_91 : decode cX1_find 91 = .ok (.aload_n 0, 1) := by decide +kernel
theorem dX1_find_92 : decode cX1_find 92 = .ok (.aload_n 0, 1) := by decide +kernel
theorem dX1_find_93 : decode cX1_find 93 = .ok (.iconst 0, 1) := by decide +kernel
theorem dX1_find_94 : decode cX1_find 94 = .ok (.iconst (-1), 1) := by decide +kernel
theorem dX1_find_95 : decode cX1_find 95 = .ok (.invokevirtual 69, 3) := by decide +kernel
theorem dX1_find_98 : decode cX1_find 98 = .ok (.putfield 39, 3) := by decide +kernel
theorem dX1_find_101 : decode cX1_find 101 = .ok (.aload_n 0, 1) := by decide +kernel
theorem dX1_find_102 : decode cX1_find 102 = .ok (.invokevirtual 73, 3) := by decide +kernel
theorem dX1_find_105 : decode cX1_find 105 = .ok (.aload_n 0, 1) := by decide +kernel
theorem dX1_find_106 : decode cX1_find 106 = .ok (.iconst 1, 1) := by decide +kernel
theorem dX1_find_107 : decode cX1_find 107 = .ok (.putfield 32, 3) := by decide +kernel
theorem dX1_find_110 : decode cX1_find 110 = .ok (.return_, 1) := by decide +kernel
set_option maxRecDepth 20000 in
theorem ggX1_nextsOf_X3_count : GoodIn wsX1_nextsOf wsX3_count := goodIn_r _ [7, 8, 22, 23, 24, 25, 26, 27] (by decide +kernel) (by decide +kernel)
set_option maxRecDepth 20000 in
theorem gX1_nextsOf_X3_count : GoodIn wsX1_nextsOf (wsV RX1 51 RX3 yX3_count wsX3_count) := goodIn_app (goodIn_of _ (by decide +kernel)) ggX1_nextsOf_X3_count
set_option maxRecDepth 20000 in
theorem ggX1_nextsOf_X3_freeDirections : GoodIn wsX1_nextsOf wsX3_freeDirections := goodIn_r _ [12, 13, 22, 23, 24, 25, 26, 27] (by decide +kernel) (by decide +kernel)
set_option maxRecDepth 20000 in
theorem gX1_nextsOf_X3_freeDirections : GoodIn wsX1_nextsOf (wsV RX1 76 RX3 yX3_freeDirections wsX3_freeDirections) := goodIn_app (goodIn_of _ (by decide +kernel)) ggX1_nextsOf_X3_freeDirections
theorem dX1_nextsOf_0 : decode cX1_nextsOf 0 = .ok (.iconst 0, 1) := by decide +kernel
theorem dX1_nextsOf_1 : decode cX1_nextsOf 1 = .ok (.istore_n 2, 1) := by decide +kernel
theorem dX1_nextsOf_2 : decode cX1_nextsOf 2 = .ok (.iconst 0, 1) := by decide +kernel
theorem dX1_nextsOf_3 : decode cX1_nextsOf 3 = .ok (.istore_n 3, 1) := by decide +kernel
theorem dX1_nextsOf_4 : decode cX1_nextsOf 4 = .ok (.iload_n 3, 1) := by decide +kernel
theorem dX1_nextsOf_5 : decode cX1_nextsOf 5 = .ok (.aload_n 0, 1) := by decide +kernel
theorem dX1_nextsOf_6 : decode cX1_nextsOf 6 = .ok (.getfield 28, 3) := by decide +kernel
theorem dX1_nextsOf_9 : decode cX1_nextsOf 9 = .ok (.invokevirtual 51, 3) := by decide +kernel
theorem dX1_nextsOf_12 : decode cX1_nextsOf 12 = .ok (.if_icmp .ge 60, 3) := by decide +kernel
theorem dX1_nextsOf_15 : decode cX1_nextsOf 15 = .ok (.iload_n 1, 1) := by decide +kernel
theorem dX1_nextsOf_16 : decode cX1_nextsOf 16 = .ok (.iconst 1, 1) := by decide +kernel
theorem dX1_nextsOf_17 : decode cX1_nextsOf 17 = .ok (.iload_n 3, 1) := by decide +kernel
theorem dX1_nextsOf_18 : decode cX1_nextsOf 18 = .ok (.ishl, 1) := by decide +kernel
theorem dX1_nextsOf_19 : decode cX1_nextsOf 19 = .ok (.ior, 1) := by decide +kernel
theorem dX1_nextsOf_20 : decode cX1_nextsOf 20 = .ok (.istore 4, 2) := by decide +kernel
theorem dX1_nextsOf_22 : decode cX1_nextsOf 22 = .ok (.iload 4, 2) := by decide +kernel
theorem dX1_nextsOf_24 : decode cX1_nextsOf 24 = .ok (.iload_n 1, 1) := by decide +kernel
theorem dX1_nextsOf_25 : decode cX1_nextsOf 25 = .ok (.if_icmp .eq 41, 3) := by decide +kernel
theorem dX1_nextsOf_28 : decode cX1_nextsOf 28 = .ok (.aload_n 0, 1) := by decide +kernel
theorem dX1_nextsOf_29 : decode cX1_nextsOf 29 = .ok (.getfield 9, 3) := by decide +kernel
theorem dX1_nextsOf_32 : decode cX1_nextsOf 32 = .ok (.iload_n 1, 1) := by decide +kernel
theorem dX1_nextsOf_33 : decode cX1_nextsOf 33 = .ok (.baload, 1) := by decide +kernel
theorem dX1_nextsOf_34 : decode cX1_nextsOf 34 = .ok (.ifCond .eq 32, 3) := by decide +kernel
theorem dX1_nextsOf_37 : decode cX1_nextsOf 37 = .ok (.aload_n 0, 1) := by decide +kernel
theorem dX1_nextsOf_38 : decode cX1_nextsOf 38 = .ok (.getfield 9, 3) := by decide +kernel
theorem dX1_nextsOf_41 : decode cX1_nextsOf 41 = .ok (.iload 4, 2) := by decide +kernel
theorem dX1_nextsOf_43 : decode cX1_nextsOf 43 = .ok (.baload, 1) := by decide +kernel
theorem dX1_nextsOf_44 : decode cX1_nextsOf 44 = .ok (.ifCond .eq 22, 3) := by decide +kernel
theorem dX1_nextsOf_47 : decode cX1_nextsOf 47 = .ok (.aload_n 0, 1) := by decide +kernel
theorem dX1_nextsOf_48 : decode cX1_nextsOf 48 = .ok (.getfield 28, 3) := by decide +kernel
theorem dX1_nextsOf_51 : decode cX1_nextsOf 51 = .ok (.iload 4, 2) := by decide +kernel
theorem dX1_nextsOf_53 : decode cX1_nextsOf 53 = .ok (.iload_n 3, 1) := by decide +kernel
theorem dX1_nextsOf_54 : decode cX1_nextsOf 54 = .ok (.invokevirtual 76, 3) := by decide +kernel
theorem dX1_nextsOf_57 : decode cX1_nextsOf 57 = .ok (.ifCond .eq 9, 3) := by decide +kernel
theorem dX1_nextsOf_60 : decode cX1_nextsOf 60 = .ok (.iload_n 2, 1) := by decide +kernel
theorem dX1_nextsOf_61 : decode cX1_nextsOf 61 = .ok (.iconst 1, 1) := by decide +kernel
theorem dX1_nextsOf_62 : decode cX1_nextsOf 62 = .ok (.iload_n 3, 1) := by decide +kernel
theorem dX1_nextsOf_63 : decode cX1_nextsOf 63 = .ok (.ishl, 1) := by decide +kernel
theorem dX1_nextsOf_64 : decode cX1_nextsOf 64 = .ok (.ior, 1) := by decide +kernel
theorem dX1_nextsOf_65 : decode cX1_nextsOf 65 = .ok (.istore_n 2, 1) := by decide +kernel
theorem dX1_nextsOf_66 : decode cX1_nextsOf 66 = .ok (.iinc 3 1, 3) := by decide +kernel
theorem dX1_nextsOf_69 : decode cX1_nextsOf 69 = .ok (.goto (-65), 3) := by decide +kernel
theorem dX1_nextsOf_72 : decode cX1_nextsOf 72 = .ok (.iload_n 2, 1) := by decide +kernel
theorem dX1_nextsOf_73 : decode cX1_nextsOf 73 = .ok (.ireturn, 1) := by decide +kernel
set_option maxRecDepth 20000 in
theorem ggX1_ordersFrom_X3_all : GoodIn wsX1_ordersFrom wsX3_all := goodIn_r _ [8, 9, 22, 23, 24, 25, 26, 27] (by decide +kernel) (by decide +kernel)
set_option maxRecDepth 20000 in
theorem gX1_ordersFrom_X3_all : GoodIn wsX1_ordersFrom (wsV RX1 57 RX3 yX3_all wsX3_all) := goodIn_app (goodIn_of _ (by decide +kernel)) ggX1_ordersFrom_X3_all
set_option maxRecDepth 20000 in
theorem ggX1_ordersFrom_X3_count : GoodIn wsX1_ordersFrom wsX3_count := goodIn_r _ [13, 9, 22, 23, 24, 25, 26, 27] (by decide +kernel) (by decide +kernel)
set_option maxRecDepth 20000 in
theorem gX1_ordersFrom_X3_count : GoodIn wsX1_ordersFrom (wsV RX1 51 RX3 yX3_count wsX3_count) := goodIn_app (goodIn_of _ (by decide +kernel)) ggX1_ordersFrom_X3_count
theorem dX1_ordersFrom_0 : decode cX1_ordersFrom 0 = .ok (.iload_n 1, 1) := by decide +kernel
theorem dX1_ordersFrom_1 : decode cX1_ordersFrom 1 = .ok (.aload_n 0, 1) := by decide +kernel
theorem dX1_ordersFrom_2 : decode cX1_ordersFrom 2 = .ok (.getfield 28, 3) := by decide +kernel
theorem dX1_ordersFrom_5 : decode cX1_ordersFrom 5 = .ok (.invokevirtual 57, 3) := by decide +kernel
theorem dX1_ordersFrom_8 : decode cX1_ordersFrom 8 = .ok (.if_icmp .ne 7, 3) := by decide +kernel
theorem dX1_ordersFrom_11 : decode cX1_ordersFrom 11 = .ok (.iconst 1, 1) := by decide +kernel
theorem dX1_ordersFrom_12 : decode cX1_ordersFrom 12 = .ok (.goto 4, 3) := by decide +kernel
theorem dX1_ordersFrom_15 : decode cX1_ordersFrom 15 = .ok (.iconst 0, 1) := by decide +kernel
theorem dX1_ordersFrom_16 : decode cX1_ordersFrom 16 = .ok (.istore_n 2, 1) := by decide +kernel
theorem dX1_ordersFrom_17 : decode cX1_ordersFrom 17 = .ok (.iconst 0, 1) := by decide +kernel
theorem dX1_ordersFrom_18 : decode cX1_ordersFrom 18 = .ok (.istore_n 3, 1) := by decide +kernel
theorem dX1_ordersFrom_19 : decode cX1_ordersFrom 19 = .ok (.iload_n 3, 1) := by decide +kernel
theorem dX1_ordersFrom_20 : decode cX1_ordersFrom 20 = .ok (.aload_n 0, 1) := by decide +kernel
theorem dX1_ordersFrom_21 : decode cX1_ordersFrom 21 = .ok (.getfield 28, 3) := by decide +kernel
theorem dX1_ordersFrom_24 : decode cX1_ordersFrom 24 = .ok (.invokevirtual 51, 3) := by decide +kernel
theorem dX1_ordersFrom_27 : decode cX1_ordersFrom 27 = .ok (.if_icmp .ge 35, 3) := by decide +kernel
theorem dX1_ordersFrom_30 : decode cX1_ordersFrom 30 = .ok (.aload_n 0, 1) := by decide +kernel
theorem dX1_ordersFrom_31 : decode cX1_ordersFrom 31 = .ok (.getfield 15, 3) := by decide +kernel
theorem dX1_ordersFrom_34 : decode cX1_ordersFrom 34 = .ok (.iload_n 1, 1) := by decide +kernel
theorem dX1_ordersFrom_35 : decode cX1_ordersFrom 35 = .ok (.iaload, 1) := by decide +kernel
theorem dX1_ordersFrom_36 : decode cX1_ordersFrom 36 = .ok (.iconst 1, 1) := by decide +kernel
theorem dX1_ordersFrom_37 : decode cX1_ordersFrom 37 = .ok (.iload_n 3, 1) := by decide +kernel
theorem dX1_ordersFrom_38 : decode cX1_ordersFrom 38 = .ok (.ishl, 1) := by decide +kernel
theorem dX1_ordersFrom_39 : decode cX1_ordersFrom 39 = .ok (.iand, 1) := by decide +kernel
theorem dX1_ordersFrom_40 : decode cX1_ordersFrom 40 = .ok (.ifCond .eq 16, 3) := by decide +kernel
theorem dX1_ordersFrom_43 : decode cX1_ordersFrom 43 = .ok (.iload_n 2, 1) := by decide +kernel
theorem dX1_ordersFrom_44 : decode cX1_ordersFrom 44 = .ok (.aload_n 0, 1) := by decide +kernel
theorem dX1_ordersFrom_45 : decode cX1_ordersFrom 45 = .ok (.getfield 19, 3) := by decide +kernel
theorem dX1_ordersFrom_48 : decode cX1_ordersFrom 48 = .ok (.iload_n 1, 1) := by decide +kernel
theorem dX1_ordersFrom_49 : decode cX1_ordersFrom 49 = .ok (.iconst 1, 1) := by decide +kernel
theorem dX1_ordersFrom_50 : decode cX1_ordersFrom 50 = .ok (.iload_n 3, 1) := by decide +kernel
theorem dX1_ordersFrom_51 : decode cX1_ordersFrom 51 = .ok (.ishl, 1) := by decide +kernel
theorem dX1_ordersFrom_52 : decode cX1_ordersFrom 52 = .ok (.ior, 1) := by decide +kernel
theorem dX1_ordersFrom_53 : decode cX1_ordersFrom 53 = .ok (.iaload, 1) := by decide +kernel
theorem dX1_ordersFrom_54 : decode cX1_ordersFrom 54 = .ok (.iadd, 1) := by decide +kernel
theorem dX1_ordersFrom_55 : decode cX1_ordersFrom 55 = .ok (.istore_n 2, 1) := by decide +kernel
theorem dX1_ordersFrom_56 : decode cX1_ordersFrom 56 = .ok (.iinc 3 1, 3) := by decide +kernel
theorem dX1_ordersFrom_59 : decode cX1_ordersFrom 59 = .ok (.goto (-40), 3) := by decide +kernel
theorem dX1_ordersFrom_62 : decode cX1_ordersFrom 62 = .ok (.iload_n 2, 1) := by decide +kernel
theorem dX1_ordersFrom_63 : decode cX1_ordersFrom 63 = .ok (.ireturn, 1) := by decide +kernel
set_option maxRecDepth 20000 in
theorem ggX1_fewestFrom_X3_all : GoodIn wsX1_fewestFrom wsX3_all := goodIn_r _ [11, 12, 39, 40, 41, 42, 43, 44] (by decide +kernel) (by decide +kernel)
set_option maxRecDepth 20000 in
theorem gX1_fewestFrom_X3_all : GoodIn wsX1_fewestFrom (wsV RX1 57 RX3 yX3_all wsX3_all) := goodIn_app (goodIn_of _ (by decide +kernel)) ggX1_fewestFrom_X3_all
set_option maxRecDepth 20000 in
theorem ggX1_fewestFrom_X3_count : GoodIn wsX1_fewestFrom wsX3_count := goodIn_r _ [16, 12, 39, 40, 41, 42, 43, 44] (by decide +kernel) (by decide +kernel)
set_option maxRecDepth 20000 in
theorem gX1_fewestFrom_X3_count : GoodIn wsX1_fewestFrom (wsV RX1 51 RX3 yX3_count wsX3_count) := goodIn_app (goodIn_of _ (by decide +kernel)) ggX1_fewestFrom_X3_count
set_option maxRecDepth 20000 in
theorem ggX1_fewestFrom_X1_changesWith : GoodIn wsX1_fewestFrom wsX1_changesWith := goodIn_r _ [21, 1, 22, 23, 24, 25, 10, 26, 27, 28, 29, 20, 30, 31, 32, 33, 34, 35, 36, 37, 38, 39, 40, 41, 42, 43, 44] (by decide +kernel) (by decide +kernel)
set_option maxRecDepth 20000 in
theorem gX1_fewestFrom_X1_changesWith : GoodIn wsX1_fewestFrom (wsV RX1 79 RX1 yX1_changesWith wsX1_changesWith) := goodIn_app (goodIn_of _ (by decide +kernel)) ggX1_fewestFrom_X1_changesWith
theorem dX1_fewestFrom_0 : decode cX1_fewestFrom 0 = .ok (.iload_n 1, 1) := by decide +kernel
theorem dX1_fewestFrom_1 : decode cX1_fewestFrom 1 = .ok (.aload_n 0, 1) := by decide +kernel
theorem dX1_fewestFrom_2 : decode cX1_fewestFrom 2 = .ok (.getfield 28, 3) := by decide +kernel
theorem dX1_fewestFrom_5 : decode cX1_fewestFrom 5 = .ok (.invokevirtual 57, 3) := by decide +kernel
theorem dX1_fewestFrom_8 : decode cX1_fewestFrom 8 = .ok (.if_icmp .ne 7, 3) := by decide +kernel
theorem dX1_fewestFrom_11 : decode cX1_fewestFrom 11 = .ok (.iconst 0, 1) := by decide +kernel
theorem dX1_fewestFrom_12 : decode cX1_fewestFrom 12 = .ok (.goto 6, 3) := by decide +kernel
theorem dX1_fewestFrom_15 : decode cX1_fewestFrom 15 = .ok (.sipush 1000, 3) := by decide +kernel
theorem dX1_fewestFrom_18 : decode cX1_fewestFrom 18 = .ok (.istore_n 3, 1) := by decide +kernel
theorem dX1_fewestFrom_19 : decode cX1_fewestFrom 19 = .ok (.iconst 0, 1) := by decide +kernel
theorem dX1_fewestFrom_20 : decode cX1_fewestFrom 20 = .ok (.istore 4, 2) := by decide +kernel
theorem dX1_fewestFrom_22 : decode cX1_fewestFrom 22 = .ok (.iload 4, 2) := by decide +kernel
theorem dX1_fewestFrom_24 : decode cX1_fewestFrom 24 = .ok (.aload_n 0, 1) := by decide +kernel
theorem dX1_fewestFrom_25 : decode cX1_fewestFrom 25 = .ok (.getfield 28, 3) := by decide +kernel
theorem dX1_fewestFrom_28 : decode cX1_fewestFrom 28 = .ok (.invokevirtual 51, 3) := by decide +kernel
theorem dX1_fewestFrom_31 : decode cX1_fewestFrom 31 = .ok (.if_icmp .ge 36, 3) := by decide +kernel
theorem dX1_fewestFrom_34 : decode cX1_fewestFrom 34 = .ok (.aload_n 0, 1) := by decide +kernel
theorem dX1_fewestFrom_35 : decode cX1_fewestFrom 35 = .ok (.getfield 15, 3) := by decide +kernel
theorem dX1_fewestFrom_38 : decode cX1_fewestFrom 38 = .ok (.iload_n 1, 1) := by decide +kernel
theorem dX1_fewestFrom_39 : decode cX1_fewestFrom 39 = .ok (.iaload, 1) := by decide +kernel
theorem dX1_fewestFrom_40 : decode cX1_fewestFrom 40 = .ok (.iconst 1, 1) := by decide +kernel
theorem dX1_fewestFrom_41 : decode cX1_fewestFrom 41 = .ok (.iload 4, 2) := by decide +kernel
theorem dX1_fewestFrom_43 : decode cX1_fewestFrom 43 = .ok (.ishl, 1) := by decide +kernel
theorem dX1_fewestFrom_44 : decode cX1_fewestFrom 44 = .ok (.iand, 1) := by decide +kernel
theorem dX1_fewestFrom_45 : decode cX1_fewestFrom 45 = .ok (.ifCond .eq 16, 3) := by decide +kernel
theorem dX1_fewestFrom_48 : decode cX1_fewestFrom 48 = .ok (.iload_n 3, 1) := by decide +kernel
theorem dX1_fewestFrom_49 : decode cX1_fewestFrom 49 = .ok (.aload_n 0, 1) := by decide +kernel
theorem dX1_fewestFrom_50 : decode cX1_fewestFrom 50 = .ok (.iload_n 1, 1) := by decide +kernel
theorem dX1_fewestFrom_51 : decode cX1_fewestFrom 51 = .ok (.iload_n 2, 1) := by decide +kernel
theorem dX1_fewestFrom_52 : decode cX1_fewestFrom 52 = .ok (.iload 4, 2) := by decide +kernel
theorem dX1_fewestFrom_54 : decode cX1_fewestFrom 54 = .ok (.invokevirtual 79, 3) := by decide +kernel
theorem dX1_fewestFrom_57 : decode cX1_fewestFrom 57 = .ok (.invokestatic 83, 3) := by decide +kernel
theorem dX1_fewestFrom_60 : decode cX1_fewestFrom 60 = .ok (.istore_n 3, 1) := by decide +kernel
theorem dX1_fewestFrom_61 : decode cX1_fewestFrom 61 = .ok (.iinc 4 1, 3) := by decide +kernel
theorem dX1_fewestFrom_64 : decode cX1_fewestFrom 64 = .ok (.goto (-42), 3) := by decide +kernel
theorem dX1_fewestFrom_67 : decode cX1_fewestFrom 67 = .ok (.iload_n 3, 1) := by decide +kernel
theorem dX1_fewestFrom_68 : decode cX1_fewestFrom 68 = .ok (.ireturn, 1) := by decide +kernel
set_option maxRecDepth 20000 in
theorem ggX1_changesWith_X3_tool : GoodIn wsX1_changesWith wsX3_tool := goodIn_r _ [7, 8, 21, 22, 23, 24, 25, 26] (by decide +kernel) (by decide +kernel)
set_option maxRecDepth 20000 in
theorem gX1_changesWith_X3_tool : GoodIn wsX1_changesWith (wsV RX1 88 RX3 yX3_tool wsX3_tool) := goodIn_app (goodIn_of _ (by decide +kernel)) ggX1_changesWith_X3_tool
set_option maxRecDepth 20000 in
theorem ggX1_changesWith_X1_change : GoodIn wsX1_changesWith wsX1_change := goodIn_r _ [12] (by decide +kernel) (by decide +kernel)
set_option maxRecDepth 20000 in
theorem gX1_changesWith_X1_change : GoodIn wsX1_changesWith (va_wsS RX1 91 yX1_change wsX1_change) := goodIn_app (goodIn_of _ (by decide +kernel)) ggX1_changesWith_X1_change
theorem dX1_changesWith_0 : decode cX1_changesWith 0 = .ok (.aload_n 0, 1) := by decide +kernel
theorem dX1_changesWith_1 : decode cX1_changesWith 1 = .ok (.getfield 28, 3) := by decide +kernel
theorem dX1_changesWith_4 : decode cX1_changesWith 4 = .ok (.iload_n 3, 1) := by decide +kernel
theorem dX1_changesWith_5 : decode cX1_changesWith 5 = .ok (.invokevirtual 88, 3) := by decide +kernel
theorem dX1_changesWith_8 : decode cX1_changesWith 8 = .ok (.istore 4, 2) := by decide +kernel
theorem dX1_changesWith_10 : decode cX1_changesWith 10 = .ok (.iload_n 2, 1) := by decide +kernel
theorem dX1_changesWith_11 : decode cX1_changesWith 11 = .ok (.iload 4, 2) := by decide +kernel
theorem dX1_changesWith_13 : decode cX1_changesWith 13 = .ok (.invokestatic 91, 3) := by decide +kernel
theorem dX1_changesWith_16 : decode cX1_changesWith 16 = .ok (.aload_n 0, 1) := by decide +kernel
theorem dX1_changesWith_17 : decode cX1_changesWith 17 = .ok (.getfield 22, 3) := by decide +kernel
theorem dX1_changesWith_20 : decode cX1_changesWith 20 = .ok (.iload_n 1, 1) := by decide +kernel
theorem dX1_changesWith_21 : decode cX1_changesWith 21 = .ok (.iconst 1, 1) := by decide +kernel
theorem dX1_changesWith_22 : decode cX1_changesWith 22 = .ok (.iload_n 3, 1) := by decide +kernel
theorem dX1_changesWith_23 : decode cX1_changesWith 23 = .ok (.ishl, 1) := by decide +kernel
theorem dX1_changesWith_24 : decode cX1_changesWith 24 = .ok (.ior, 1) := by decide +kernel
theorem dX1_changesWith_25 : decode cX1_changesWith 25 = .ok (.iconst 4, 1) := by decide +kernel
theorem dX1_changesWith_26 : decode cX1_changesWith 26 = .ok (.imul, 1) := by decide +kernel
theorem dX1_changesWith_27 : decode cX1_changesWith 27 = .ok (.iload 4, 2) := by decide +kernel
theorem dX1_changesWith_29 : decode cX1_changesWith 29 = .ok (.iadd, 1) := by decide +kernel
theorem dX1_changesWith_30 : decode cX1_changesWith 30 = .ok (.iaload, 1) := by decide +kernel
theorem dX1_changesWith_31 : decode cX1_changesWith 31 = .ok (.iadd, 1) := by decide +kernel
theorem dX1_changesWith_32 : decode cX1_changesWith 32 = .ok (.ireturn, 1) := by decide +kernel
theorem dX1_change_0 : decode cX1_change 0 = .ok (.iload_n 0, 1) := by decide +kernel
theorem dX1_change_1 : decode cX1_change 1 = .ok (.iconst (-1), 1) := by decide +kernel
theorem dX1_change_2 : decode cX1_change 2 = .ok (.if_icmp .eq 8, 3) := by decide +kernel
theorem dX1_change_5 : decode cX1_change 5 = .ok (.iload_n 0, 1) := by decide +kernel
theorem dX1_change_6 : decode cX1_change 6 = .ok (.iload_n 1, 1) := by decide +kernel
theorem dX1_change_7 : decode cX1_change 7 = .ok (.if_icmp .ne 7, 3) := by decide +kernel
theorem dX1_change_10 : decode cX1_change 10 = .ok (.iconst 0, 1) := by decide +kernel
theorem dX1_change_11 : decode cX1_change 11 = .ok (.goto 4, 3) := by decide +kernel
theorem dX1_change_14 : decode cX1_change 14 = .ok (.iconst 1, 1) := by decide +kernel
theorem dX1_change_15 : decode cX1_change 15 = .ok (.ireturn, 1) := by decide +kernel
set_option maxRecDepth 20000 in
theorem ggX1_findBest_X3_count : GoodIn wsX1_findBest wsX3_count := goodIn_r _ [8, 9, 37, 38, 39, 40, 41, 42] (by decide +kernel) (by decide +kernel)
set_option maxRecDepth 20000 in
theorem gX1_findBest_X3_count : GoodIn wsX1_findBest (wsV RX1 51 RX3 yX3_count wsX3_count) := goodIn_app (goodIn_of _ (by decide +kernel)) ggX1_findBest_X3_count
set_option maxRecDepth 20000 in
theorem ggX1_findBest_X1_leastNext : GoodIn wsX1_findBest wsX1_leastNext := goodIn_r _ [14, 2, 15, 4, 5, 6, 7, 8, 9, 16, 17, 18, 13, 19, 20, 21, 22, 23, 24, 25, 26, 27, 28, 29, 30, 31, 32, 33, 34, 35, 36, 37, 38, 39, 40, 41, 42] (by decide +kernel) (by decide +kernel)
set_option maxRecDepth 20000 in
theorem gX1_findBest_X1_leastNext : GoodIn wsX1_findBest (wsV RX1 94 RX1 yX1_leastNext wsX1_leastNext) := goodIn_app (goodIn_of _ (by decide +kernel)) ggX1_findBest_X1_leastNext
set_option maxRecDepth 20000 in
theorem ggX1_findBest_X3_tool : GoodIn wsX1_findBest wsX3_tool := goodIn_r _ [24, 25, 37, 38, 39, 40, 41, 42] (by decide +kernel) (by decide +kernel)
set_option maxRecDepth 20000 in
theorem gX1_findBest_X3_tool : GoodIn wsX1_findBest (wsV RX1 88 RX3 yX3_tool wsX3_tool) := goodIn_app (goodIn_of _ (by decide +kernel)) ggX1_findBest_X3_tool
set_option maxRecDepth 20000 in
theorem ggX1_findBest_X1_change : GoodIn wsX1_findBest wsX1_change := goodIn_r _ [28] (by decide +kernel) (by decide +kernel)
set_option maxRecDepth 20000 in
theorem gX1_findBest_X1_change : GoodIn wsX1_findBest (va_wsS RX1 91 yX1_change wsX1_change) := goodIn_app (goodIn_of _ (by decide +kernel)) ggX1_findBest_X1_change
theorem dX1_findBest_0 : decode cX1_findBest 0 = .ok (.iconst 0, 1) := by decide +kernel
theorem dX1_findBest_1 : decode cX1_findBest 1 = .ok (.istore_n 1, 1) := by decide +kernel
theorem dX1_findBest_2 : decode cX1_findBest 2 = .ok (.iconst (-1), 1) := by decide +kernel
theorem dX1_findBest_3 : decode cX1_findBest 3 = .ok (.istore_n 2, 1) := by decide +kernel
theorem dX1_findBest_4 : decode cX1_findBest 4 = .ok (.aload_n 0, 1) := by decide +kernel
theorem dX1_findBest_5 : decode cX1_findBest 5 = .ok (.getfield 39, 3) := by decide +kernel
theorem dX1_findBest_8 : decode cX1_findBest 8 = .ok (.istore_n 3, 1) := by decide +kernel
theorem dX1_findBest_9 : decode cX1_findBest 9 = .ok (.iconst 0, 1) := by decide +kernel
theorem dX1_findBest_10 : decode cX1_findBest 10 = .ok (.istore 4, 2) := by decide +kernel
theorem dX1_findBest_12 : decode cX1_findBest 12 = .ok (.iload 4, 2) := by decide +kernel
theorem dX1_findBest_14 : decode cX1_findBest 14 = .ok (.aload_n 0, 1) := by decide +kernel
theorem dX1_findBest_15 : decode cX1_findBest 15 = .ok (.getfield 28, 3) := by decide +kernel
theorem dX1_findBest_18 : decode cX1_findBest 18 = .ok (.invokevirtual 51, 3) := by decide +kernel
theorem dX1_findBest_21 : decode cX1_findBest 21 = .ok (.if_icmp .ge 67, 3) := by decide +kernel
theorem dX1_findBest_24 : decode cX1_findBest 24 = .ok (.aload_n 0, 1) := by decide +kernel
theorem dX1_findBest_25 : decode cX1_findBest 25 = .ok (.iload_n 1, 1) := by decide +kernel
theorem dX1_findBest_26 : decode cX1_findBest 26 = .ok (.iload_n 2, 1) := by decide +kernel
theorem dX1_findBest_27 : decode cX1_findBest 27 = .ok (.iload_n 3, 1) := by decide +kernel
theorem dX1_findBest_28 : decode cX1_findBest 28 = .ok (.invokevirtual 94, 3) := by decide +kernel
theorem dX1_findBest_31 : decode cX1_findBest 31 = .ok (.istore 5, 2) := by decide +kernel
theorem dX1_findBest_33 : decode cX1_findBest 33 = .ok (.iload 5, 2) := by decide +kernel
theorem dX1_findBest_35 : decode cX1_findBest 35 = .ok (.iconst (-1), 1) := by decide +kernel
theorem dX1_findBest_36 : decode cX1_findBest 36 = .ok (.if_icmp .ne 4, 3) := by decide +kernel
theorem dX1_findBest_39 : decode cX1_findBest 39 = .ok (.return_, 1) := by decide +kernel
theorem dX1_findBest_40 : decode cX1_findBest 40 = .ok (.aload_n 0, 1) := by decide +kernel
theorem dX1_findBest_41 : decode cX1_findBest 41 = .ok (.getfield 25, 3) := by decide +kernel
theorem dX1_findBest_44 : decode cX1_findBest 44 = .ok (.iload 4, 2) := by decide +kernel
theorem dX1_findBest_46 : decode cX1_findBest 46 = .ok (.iload 5, 2) := by decide +kernel
theorem dX1_findBest_48 : decode cX1_findBest 48 = .ok (.iastore, 1) := by decide +kernel
theorem dX1_findBest_49 : decode cX1_findBest 49 = .ok (.iload_n 3, 1) := by decide +kernel
theorem dX1_findBest_50 : decode cX1_findBest 50 = .ok (.iload_n 2, 1) := by decide +kernel
theorem dX1_findBest_51 : decode cX1_findBest 51 = .ok (.aload_n 0, 1) := by decide +kernel
theorem dX1_findBest_52 : decode cX1_findBest 52 = .ok (.getfield 28, 3) := by decide +kernel
theorem dX1_findBest_55 : decode cX1_findBest 55 = .ok (.iload 5, 2) := by decide +kernel
theorem dX1_findBest_57 : decode cX1_findBest 57 = .ok (.invokevirtual 88, 3) := by decide +kernel
theorem dX1_findBest_60 : decode cX1_findBest 60 = .ok (.invokestatic 91, 3) := by decide +kernel
theorem dX1_findBest_63 : decode cX1_findBest 63 = .ok (.isub, 1) := by decide +kernel
theorem dX1_findBest_64 : decode cX1_findBest 64 = .ok (.istore_n 3, 1) := by decide +kernel
theorem dX1_findBest_65 : decode cX1_findBest 65 = .ok (.aload_n 0, 1) := by decide +kernel
theorem dX1_findBest_66 : decode cX1_findBest 66 = .ok (.getfield 28, 3) := by decide +kernel
theorem dX1_findBest_69 : decode cX1_findBest 69 = .ok (.iload 5, 2) := by decide +kernel
theorem dX1_findBest_71 : decode cX1_findBest 71 = .ok (.invokevirtual 88, 3) := by decide +kernel
theorem dX1_findBest_74 : decode cX1_findBest 74 = .ok (.istore_n 2, 1) := by decide +kernel
theorem dX1_findBest_75 : decode cX1_findBest 75 = .ok (.iload_n 1, 1) := by decide +kernel
theorem dX1_findBest_76 : decode cX1_findBest 76 = .ok (.iconst 1, 1) := by decide +kernel
theorem dX1_findBest_77 : decode cX1_findBest 77 = .ok (.iload 5, 2) := by decide +kernel
theorem dX1_findBest_79 : decode cX1_findBest 79 = .ok (.ishl, 1) := by decide +kernel
theorem dX1_findBest_80 : decode cX1_findBest 80 = .ok (.ior, 1) := by decide +kernel
theorem dX1_findBest_81 : decode cX1_findBest 81 = .ok (.istore_n 1, 1) := by decide +kernel
theorem dX1_findBest_82 : decode cX1_findBest 82 = .ok (.iinc 4 1, 3) := by decide +kernel
theorem dX1_findBest_85 : decode cX1_findBest 85 = .ok (.goto (-73), 3) := by decide +kernel
theorem dX1_findBest_88 : decode cX1_findBest 88 = .ok (.return_, 1) := by decide +kernel
set_option maxRecDepth 20000 in
theorem ggX1_leastNext_X3_count : GoodIn wsX1_leastNext wsX3_count := goodIn_r _ [7, 8, 31, 32, 33, 34, 35, 36] (by decide +kernel) (by decide +kernel)
set_option maxRecDepth 20000 in
theorem gX1_leastNext_X3_count : GoodIn wsX1_leastNext (wsV RX1 51 RX3 yX3_count wsX3_count) := goodIn_app (goodIn_of _ (by decide +kernel)) ggX1_leastNext_X3_count
set_option maxRecDepth 20000 in
theorem ggX1_leastNext_X1_changesWith : GoodIn wsX1_leastNext wsX1_changesWith := goodIn_r _ [13, 1, 14, 15, 16, 17, 6, 18, 19, 20, 21, 12, 22, 23, 24, 25, 26, 27, 28, 29, 30, 31, 32, 33, 34, 35, 36] (by decide +kernel) (by decide +kernel)
set_option maxRecDepth 20000 in
theorem gX1_leastNext_X1_changesWith : GoodIn wsX1_leastNext (wsV RX1 79 RX1 yX1_changesWith wsX1_changesWith) := goodIn_app (goodIn_of _ (by decide +kernel)) ggX1_leastNext_X1_changesWith
theorem dX1_leastNext_0 : decode cX1_leastNext 0 = .ok (.iconst 0, 1) := by decide +kernel
theorem dX1_leastNext_1 : decode cX1_leastNext 1 = .ok (.istore 4, 2) := by decide +kernel
theorem dX1_leastNext_3 : decode cX1_leastNext 3 = .ok (.iload 4, 2) := by decide +kernel
theorem dX1_leastNext_5 : decode cX1_leastNext 5 = .ok (.aload_n 0, 1) := by decide +kernel
theorem dX1_leastNext_6 : decode cX1_leastNext 6 = .ok (.getfield 28, 3) := by decide +kernel
theorem dX1_leastNext_9 : decode cX1_leastNext 9 = .ok (.invokevirtual 51, 3) := by decide +kernel
theorem dX1_leastNext_12 : decode cX1_leastNext 12 = .ok (.if_icmp .ge 38, 3) := by decide +kernel
theorem dX1_leastNext_15 : decode cX1_leastNext 15 = .ok (.aload_n 0, 1) := by decide +kernel
theorem dX1_leastNext_16 : decode cX1_leastNext 16 = .ok (.getfield 15, 3) := by decide +kernel
theorem dX1_leastNext_19 : decode cX1_leastNext 19 = .ok (.iload_n 1, 1) := by decide +kernel
theorem dX1_leastNext_20 : decode cX1_leastNext 20 = .ok (.iaload, 1) := by decide +kernel
theorem dX1_leastNext_21 : decode cX1_leastNext 21 = .ok (.iconst 1, 1) := by decide +kernel
theorem dX1_leastNext_22 : decode cX1_leastNext 22 = .ok (.iload 4, 2) := by decide +kernel
theorem dX1_leastNext_24 : decode cX1_leastNext 24 = .ok (.ishl, 1) := by decide +kernel
theorem dX1_leastNext_25 : decode cX1_leastNext 25 = .ok (.iand, 1) := by decide +kernel
theorem dX1_leastNext_26 : decode cX1_leastNext 26 = .ok (.ifCond .eq 18, 3) := by decide +kernel
theorem dX1_leastNext_29 : decode cX1_leastNext 29 = .ok (.aload_n 0, 1) := by decide +kernel
theorem dX1_leastNext_30 : decode cX1_leastNext 30 = .ok (.iload_n 1, 1) := by decide +kernel
theorem dX1_leastNext_31 : decode cX1_leastNext 31 = .ok (.iload_n 2, 1) := by decide +kernel
theorem dX1_leastNext_32 : decode cX1_leastNext 32 = .ok (.iload 4, 2) := by decide +kernel
theorem dX1_leastNext_34 : decode cX1_leastNext 34 = .ok (.invokevirtual 79, 3) := by decide +kernel
theorem dX1_leastNext_37 : decode cX1_leastNext 37 = .ok (.iload_n 3, 1) := by decide +kernel
theorem dX1_leastNext_38 : decode cX1_leastNext 38 = .ok (.if_icmp .ne 6, 3) := by decide +kernel
theorem dX1_leastNext_41 : decode cX1_leastNext 41 = .ok (.iload 4, 2) := by decide +kernel
theorem dX1_leastNext_43 : decode cX1_leastNext 43 = .ok (.ireturn, 1) := by decide +kernel
theorem dX1_leastNext_44 : decode cX1_leastNext 44 = .ok (.iinc 4 1, 3) := by decide +kernel
theorem dX1_leastNext_47 : decode cX1_leastNext 47 = .ok (.goto (-44), 3) := by decide +kernel
theorem dX1_leastNext_50 : decode cX1_leastNext 50 = .ok (.iconst (-1), 1) := by decide +kernel
theorem dX1_leastNext_51 : decode cX1_leastNext 51 = .ok (.ireturn, 1) := by decide +kernel
set_option maxRecDepth 20000 in
theorem ggX1_listed_X3_count : GoodIn wsX1_listed wsX3_count := goodIn_r _ [11, 12, 32, 33, 34, 35, 36, 37] (by decide +kernel) (by decide +kernel)
set_option maxRecDepth 20000 in
theorem gX1_listed_X3_count : GoodIn wsX1_listed (wsV RX1 51 RX3 yX3_count wsX3_count) := goodIn_app (goodIn_of _ (by decide +kernel)) ggX1_listed_X3_count
set_option maxRecDepth 20000 in
theorem ggX1_listed_X3_tool : GoodIn wsX1_listed wsX3_tool := goodIn_r _ [16, 17, 32, 33, 34, 35, 36, 37] (by decide +kernel) (by decide +kernel)
set_option maxRecDepth 20000 in
theorem gX1_listed_X3_tool : GoodIn wsX1_listed (wsV RX1 88 RX3 yX3_tool wsX3_tool) := goodIn_app (goodIn_of _ (by decide +kernel)) ggX1_listed_X3_tool
set_option maxRecDepth 20000 in
theorem ggX1_listed_X1_listed : GoodIn wsX1_listed wsX1_listed := goodIn_r _ [0, 1, 2, 3, 4, 5, 6, 7, 8, 9, 10, 11, 12, 13, 14, 15, 16, 17, 18, 19, 20, 21, 22, 23, 24, 25, 26, 27, 28, 29, 30, 31, 32, 33, 34, 35, 36, 37] (by decide +kernel) (by decide +kernel)
set_option maxRecDepth 20000 in
theorem gX1_listed_X1_listed : GoodIn wsX1_listed (va_wsS RX1 47 yX1_listed wsX1_listed) := goodIn_app (goodIn_of _ (by decide +kernel)) ggX1_listed_X1_listed
set_option maxRecDepth 20000 in
theorem ggX1_listed_X1_change : GoodIn wsX1_listed wsX1_change := goodIn_r _ [23] (by decide +kernel) (by decide +kernel)
set_option maxRecDepth 20000 in
theorem gX1_listed_X1_change : GoodIn wsX1_listed (va_wsS RX1 91 yX1_change wsX1_change) := goodIn_app (goodIn_of _ (by decide +kernel)) ggX1_listed_X1_change
theorem dX1_listed_0 : decode cX1_listed 0 = .ok (.iload_n 1, 1) := by decide +kernel
theorem dX1_listed_1 : decode cX1_listed 1 = .ok (.aload_n 0, 1) := by decide +kernel
theorem dX1_listed_2 : decode cX1_listed 2 = .ok (.getfield 28, 3) := by decide +kernel
theorem dX1_listed_5 : decode cX1_listed 5 = .ok (.invokevirtual 51, 3) := by decide +kernel
theorem dX1_listed_8 : decode cX1_listed 8 = .ok (.if_icmp .ge 9, 3) := by decide +kernel
theorem dX1_listed_11 : decode cX1_listed 11 = .ok (.iload_n 1, 1) := by decide +kernel
theorem dX1_listed_12 : decode cX1_listed 12 = .ok (.bipush 7, 2) := by decide +kernel
theorem dX1_listed_14 : decode cX1_listed 14 = .ok (.if_icmp .lt 5, 3) := by decide +kernel
theorem dX1_listed_17 : decode cX1_listed 17 = .ok (.iconst 0, 1) := by decide +kernel
theorem dX1_listed_18 : decode cX1_listed 18 = .ok (.ireturn, 1) := by decide +kernel
theorem dX1_listed_19 : decode cX1_listed 19 = .ok (.sipush 1000, 3) := by decide +kernel
theorem dX1_listed_22 : decode cX1_listed 22 = .ok (.istore 4, 2) := by decide +kernel
theorem dX1_listed_24 : decode cX1_listed 24 = .ok (.iconst 0, 1) := by decide +kernel
theorem dX1_listed_25 : decode cX1_listed 25 = .ok (.istore 5, 2) := by decide +kernel
theorem dX1_listed_27 : decode cX1_listed 27 = .ok (.iload 5, 2) := by decide +kernel
theorem dX1_listed_29 : decode cX1_listed 29 = .ok (.aload_n 0, 1) := by decide +kernel
theorem dX1_listed_30 : decode cX1_listed 30 = .ok (.getfield 28, 3) := by decide +kernel
theorem dX1_listed_33 : decode cX1_listed 33 = .ok (.invokevirtual 51, 3) := by decide +kernel
theorem dX1_listed_36 : decode cX1_listed 36 = .ok (.if_icmp .ge 67, 3) := by decide +kernel
theorem dX1_listed_39 : decode cX1_listed 39 = .ok (.aload_n 0, 1) := by decide +kernel
theorem dX1_listed_40 : decode cX1_listed 40 = .ok (.getfield 15, 3) := by decide +kernel
theorem dX1_listed_43 : decode cX1_listed 43 = .ok (.iload_n 2, 1) := by decide +kernel
theorem dX1_listed_44 : decode cX1_listed 44 = .ok (.iaload, 1) := by decide +kernel
theorem dX1_listed_45 : decode cX1_listed 45 = .ok (.iconst 1, 1) := by decide +kernel
theorem dX1_listed_46 : decode cX1_listed 46 = .ok (.iload 5, 2) := by decide +kernel
theorem dX1_listed_48 : decode cX1_listed 48 = .ok (.ishl, 1) := by decide +kernel
theorem dX1_listed_49 : decode cX1_listed 49 = .ok (.iand, 1) := by decide +kernel
theorem dX1_listed_50 : decode cX1_listed 50 = .ok (.ifCond .eq 47, 3) := by decide +kernel
theorem dX1_listed_53 : decode cX1_listed 53 = .ok (.aload_n 0, 1) := by decide +kernel
theorem dX1_listed_54 : decode cX1_listed 54 = .ok (.getfield 28, 3) := by decide +kernel
theorem dX1_listed_57 : decode cX1_listed 57 = .ok (.iload 5, 2) := by decide +kernel
theorem dX1_listed_59 : decode cX1_listed 59 = .ok (.invokevirtual 88, 3) := by decide +kernel
theorem dX1_listed_62 : decode cX1_listed 62 = .ok (.istore 6, 2) := by decide +kernel
theorem dX1_listed_64 : decode cX1_listed 64 = .ok (.aload_n 0, 1) := by decide +kernel
theorem dX1_listed_65 : decode cX1_listed 65 = .ok (.iload_n 1, 1) := by decide +kernel
theorem dX1_listed_66 : decode cX1_listed 66 = .ok (.iconst 1, 1) := by decide +kernel
theorem dX1_listed_67 : decode cX1_listed 67 = .ok (.iadd, 1) := by decide +kernel
theorem dX1_listed_68 : decode cX1_listed 68 = .ok (.iload_n 2, 1) := by decide +kernel
theorem dX1_listed_69 : decode cX1_listed 69 = .ok (.iconst 1, 1) := by decide +kernel
theorem dX1_listed_70 : decode cX1_listed 70 = .ok (.iload 5, 2) := by decide +kernel
theorem dX1_listed_72 : decode cX1_listed 72 = .ok (.ishl, 1) := by decide +kernel
theorem dX1_listed_73 : decode cX1_listed 73 = .ok (.ior, 1) := by decide +kernel
theorem dX1_listed_74 : decode cX1_listed 74 = .ok (.iload 6, 2) := by decide +kernel
theorem dX1_listed_76 : decode cX1_listed 76 = .ok (.invokestatic 47, 3) := by decide +kernel
theorem dX1_listed_79 : decode cX1_listed 79 = .ok (.istore 7, 2) := by decide +kernel
theorem dX1_listed_81 : decode cX1_listed 81 = .ok (.iload 4, 2) := by decide +kernel
theorem dX1_listed_83 : decode cX1_listed 83 = .ok (.iload_n 3, 1) := by decide +kernel
theorem dX1_listed_84 : decode cX1_listed 84 = .ok (.iload 6, 2) := by decide +kernel
theorem dX1_listed_86 : decode cX1_listed 86 = .ok (.invokestatic 91, 3) := by decide +kernel
theorem dX1_listed_89 : decode cX1_listed 89 = .ok (.iload 7, 2) := by decide +kernel
theorem dX1_listed_91 : decode cX1_listed 91 = .ok (.iadd, 1) := by decide +kernel
theorem dX1_listed_92 : decode cX1_listed 92 = .ok (.invokestatic 83, 3) := by decide +kernel
theorem dX1_listed_95 : decode cX1_listed 95 = .ok (.istore 4, 2) := by decide +kernel
theorem dX1_listed_97 : decode cX1_listed 97 = .ok (.iinc 5 1, 3) := by decide +kernel
theorem dX1_listed_100 : decode cX1_listed 100 = .ok (.goto (-73), 3) := by decide +kernel
theorem dX1_listed_103 : decode cX1_listed 103 = .ok (.iload 4, 2) := by decide +kernel
theorem dX1_listed_105 : decode cX1_listed 105 = .ok (.ireturn, 1) := by decide +kernel
end
section
theorem dX2_init_0 : decode cX2_init 0 = .ok (.aload_n 0, 1) := by decide +kernel
theorem dX2_init_1 : decode cX2_init 1 = .ok (.invokespecial 3, 3) := by decide +kernel
theorem dX2_init_4 : decode cX2_init 4 = .ok (.aload_n 0, 1) := by decide +kernel
theorem dX2_init_5 : decode cX2_init 5 = .ok (.sipush 256, 3) := by decide +kernel
theorem dX2_init_8 : decode cX2_init 8 = .ok (.newarray .boolean, 2) := by decide +kernel
theorem dX2_init_10 : decode cX2_init 10 = .ok (.putfield 9, 3) := by decide +kernel
theorem dX2_init_13 : decode cX2_init 13 = .ok (.aload_n 0, 1) := by decide +kernel
theorem dX2_init_14 : decode cX2_init 14 = .ok (.sipush 256, 3) := by decide +kernel
theorem dX2_init_17 : decode cX2_init 17 = .ok (.newarray .int, 2) := by decide +kernel
theorem dX2_init_19 : decode cX2_init 19 = .ok (.putfield 15, 3) := by decide +kernel
theorem dX2_init_22 : decode cX2_init 22 = .ok (.aload_n 0, 1) := by decide +kernel
theorem dX2_init_23 : decode cX2_init 23 = .ok (.sipush 256, 3) := by decide +kernel
theorem dX2_init_26 : decode cX2_init 26 = .ok (.newarray .int, 2) := by decide +kernel
theorem dX2_init_28 : decode cX2_init 28 = .ok (.putfield 19, 3) := by decide +kernel
theorem dX2_init_31 : decode cX2_init 31 = .ok (.aload_n 0, 1) := by decide +kernel
theorem dX2_init_32 : decode cX2_init 32 = .ok (.sipush 256, 3) := by decide +kernel
theorem dX2_init_35 : decode cX2_init 35 = .ok (.newarray .int, 2) := by decide +kernel
theorem dX2_init_37 : decode cX2_init 37 = .ok (.putfield 22, 3) := by decide +kernel
theorem dX2_init_40 : decode cX2_init 40 = .ok (.aload_n 0, 1) := by decide +kernel
theorem dX2_init_41 : decode cX2_init 41 = .ok (.aload_n 1, 1) := by decide +kernel
theorem dX2_init_42 : decode cX2_init 42 = .ok (.putfield 25, 3) := by decide +kernel
theorem dX2_init_45 : decode cX2_init 45 = .ok (.return_, 1) := by decide +kernel
theorem dX2_forget_0 : decode cX2_forget 0 = .ok (.aload_n 0, 1) := by decide +kernel
theorem dX2_forget_1 : decode cX2_forget 1 = .ok (.iconst 0, 1) := by decide +kernel
theorem dX2_forget_2 : decode cX2_forget 2 = .ok (.putfield 29, 3) := by decide +kernel
theorem dX2_forget_5 : decode cX2_forget 5 = .ok (.return_, 1) := by decide +kernel
set_option maxRecDepth 20000 in
theorem ggX2_splitsOf_X2_find : GoodIn wsX2_splitsOf wsX2_find := goodIn_r _ [6, 7, 8, 9, 10, 11, 12, 13, 14, 15, 16, 17, 18, 19, 20, 21, 22, 23, 24, 25, 26, 5, 27, 1, 28, 29, 30, 31, 32, 33, 34, 35, 36, 37, 38, 39, 40, 41, 42, 43, 44, 45, 46, 47, 48, 49, 50, 51, 52, 53, 54, 55, 56, 57, 58, 59, 60, 61, 62, 63, 64, 65] (by decide +kernel) (by decide +kernel)
set_option maxRecDepth 20000 in
theorem gX2_splitsOf_X2_find : GoodIn wsX2_splitsOf (wsV RX2 33 RX2 yX2_find wsX2_find) := goodIn_app (goodIn_of _ (by decide +kernel)) ggX2_splitsOf_X2_find
theorem dX2_splitsOf_0 : decode cX2_splitsOf 0 = .ok (.aload_n 0, 1) := by decide +kernel
theorem dX2_splitsOf_1 : decode cX2_splitsOf 1 = .ok (.invokevirtual 33, 3) := by decide +kernel
theorem dX2_splitsOf_4 : decode cX2_splitsOf 4 = .ok (.aload_n 0, 1) := by decide +kernel
theorem dX2_splitsOf_5 : decode cX2_splitsOf 5 = .ok (.getfield 15, 3) := by decide +kernel
theorem dX2_splitsOf_8 : decode cX2_splitsOf 8 = .ok (.iload_n 1, 1) := by decide +kernel
theorem dX2_splitsOf_9 : decode cX2_splitsOf 9 = .ok (.iaload, 1) := by decide +kernel
theorem dX2_splitsOf_10 : decode cX2_splitsOf 10 = .ok (.ireturn, 1) := by decide +kernel
set_option maxRecDepth 20000 in
theorem ggX2_waysOf_X2_find : GoodIn wsX2_waysOf wsX2_find := goodIn_r _ [6, 7, 8, 9, 10, 11, 12, 13, 14, 15, 16, 17, 18, 19, 20, 21, 22, 23, 24, 25, 26, 5, 27, 28, 1, 29, 30, 31, 32, 33, 34, 35, 36, 37, 38, 39, 40, 41, 42, 43, 44, 45, 46, 47, 48, 49, 50, 51, 52, 53, 54, 55, 56, 57, 58, 59, 60, 61, 62, 63, 64, 65] (by decide +kernel) (by decide +kernel)
set_option maxRecDepth 20000 in
theorem gX2_waysOf_X2_find : GoodIn wsX2_waysOf (wsV RX2 33 RX2 yX2_find wsX2_find) := goodIn_app (goodIn_of _ (by decide +kernel)) ggX2_waysOf_X2_find
theorem dX2_waysOf_0 : decode cX2_waysOf 0 = .ok (.aload_n 0, 1) := by decide +kernel
theorem dX2_waysOf_1 : decode cX2_waysOf 1 = .ok (.invokevirtual 33, 3) := by decide +kernel
theorem dX2_waysOf_4 : decode cX2_waysOf 4 = .ok (.aload_n 0, 1) := by decide +kernel
theorem dX2_waysOf_5 : decode cX2_waysOf 5 = .ok (.getfield 19, 3) := by decide +kernel
theorem dX2_waysOf_8 : decode cX2_waysOf 8 = .ok (.iload_n 1, 1) := by decide +kernel
theorem dX2_waysOf_9 : decode cX2_waysOf 9 = .ok (.iaload, 1) := by decide +kernel
theorem dX2_waysOf_10 : decode cX2_waysOf 10 = .ok (.ireturn, 1) := by decide +kernel
set_option maxRecDepth 20000 in
theorem ggX2_leastDepthOf_X2_find : GoodIn wsX2_leastDepthOf wsX2_find := goodIn_r _ [6, 7, 8, 9, 10, 11, 12, 13, 14, 15, 16, 17, 18, 19, 20, 21, 22, 23, 24, 25, 26, 5, 27, 28, 29, 1, 30, 31, 32, 33, 34, 35, 36, 37, 38, 39, 40, 41, 42, 43, 44, 45, 46, 47, 48, 49, 50, 51, 52, 53, 54, 55, 56, 57, 58, 59, 60, 61, 62, 63, 64, 65] (by decide +kernel) (by decide +kernel)
set_option maxRecDepth 20000 in
theorem gX2_leastDepthOf_X2_find : GoodIn wsX2_leastDepthOf (wsV RX2 33 RX2 yX2_find wsX2_find) := goodIn_app (goodIn_of _ (by decide +kernel)) ggX2_leastDepthOf_X2_find
theorem dX2_leastDepthOf_0 : decode cX2_leastDepthOf 0 = .ok (.aload_n 0, 1) := by decide +kernel
theorem dX2_leastDepthOf_1 : decode cX2_leastDepthOf 1 = .ok (.invokevirtual 33, 3) := by decide +kernel
theorem dX2_leastDepthOf_4 : decode cX2_leastDepthOf 4 = .ok (.aload_n 0, 1) := by decide +kernel
theorem dX2_leastDepthOf_5 : decode cX2_leastDepthOf 5 = .ok (.getfield 22, 3) := by decide +kernel
theorem dX2_leastDepthOf_8 : decode cX2_leastDepthOf 8 = .ok (.iload_n 1, 1) := by decide +kernel
theorem dX2_leastDepthOf_9 : decode cX2_leastDepthOf 9 = .ok (.iaload, 1) := by decide +kernel
theorem dX2_leastDepthOf_10 : decode cX2_leastDepthOf 10 = .ok (.ireturn, 1) := by decide +kernel
set_option maxRecDepth 20000 in
theorem ggX2_find_X3_all : GoodIn wsX2_find wsX3_all := goodIn_r _ [8, 9, 56, 57, 58, 59, 60, 61] (by decide +kernel) (by decide +kernel)
set_option maxRecDepth 20000 in
theorem gX2_find_X3_all : GoodIn wsX2_find (wsV RX2 36 RX3 yX3_all wsX3_all) := goodIn_app (goodIn_of _ (by decide +kernel)) ggX2_find_X3_all
set_option maxRecDepth 20000 in
theorem ggX2_find_X3_connected : GoodIn wsX2_find wsX3_connected := goodIn_r _ [13, 14, 15, 16, 7, 17, 56, 57, 58, 59, 60, 61] (by decide +kernel) (by decide +kernel)
set_option maxRecDepth 20000 in
theorem gX2_find_X3_connected : GoodIn wsX2_find (wsV RX2 42 RX3 yX3_connected wsX3_connected) := goodIn_app (goodIn_of _ (by decide +kernel)) ggX2_find_X3_connected
set_option maxRecDepth 20000 in
theorem ggX2_find_X2_findFor : GoodIn wsX2_find wsX2_findFor := goodIn_r _ [22, 23, 24, 25, 3, 26, 27, 28, 21, 29, 2, 30, 31, 32, 7, 33, 34, 35, 36, 37, 9, 38, 39, 40, 41, 42, 43, 44, 45, 46, 47, 48, 49, 50, 51, 52, 53, 54, 55, 56, 57, 58, 59, 60, 61] (by decide +kernel) (by decide +kernel)
set_option maxRecDepth 20000 in
theorem gX2_find_X2_findFor : GoodIn wsX2_find (wsV RX2 45 RX2 yX2_findFor wsX2_findFor) := goodIn_app (goodIn_of _ (by decide +kernel)) ggX2_find_X2_findFor
theorem dX2_find_0 : decode cX2_find 0 = .ok (.aload_n 0, 1) := by decide +kernel
theorem dX2_find_1 : decode cX2_find 1 = .ok (.getfield 29, 3) := by decide +kernel
theorem dX2_find_4 : decode cX2_find 4 = .ok (.ifCond .eq 4, 3) := by decide +kernel
theorem dX2_find_7 : decode cX2_find 7 = .ok (.return_, 1) := by decide +kernel
theorem dX2_find_8 : decode cX2_find 8 = .ok (.iconst 1, 1) := by decide +kernel
theorem dX2_find_9 : decode cX2_find 9 = .ok (.istore_n 1, 1) := by decide +kernel
theorem dX2_find_10 : decode cX2_find 10 = .ok (.iload_n 1, 1) := by decide +kernel
theorem dX2_find_11 : decode cX2_find 11 = .ok (.aload_n 0, 1) := by decide +kernel
theorem dX2_find_12 : decode cX2_find 12 = .ok (.getfield 25, 3) := by decide +kernel
theorem dX2_find_15 : decode cX2_find 15 = .ok (.invokevirtual 36, 3) := by decide +kernel
theorem dX2_find_18 : decode cX2_find 18 = .ok (.if_icmp .gt 28, 3) := by decide +kernel
theorem dX2_find_21 : decode cX2_find 21 = .ok (.aload_n 0, 1) := by decide +kernel
theorem dX2_find_22 : decode cX2_find 22 = .ok (.getfield 9, 3) := by decide +kernel
theorem dX2_find_25 : decode cX2_find 25 = .ok (.iload_n 1, 1) := by decide +kernel
theorem dX2_find_26 : decode cX2_find 26 = .ok (.aload_n 0, 1) := by decide +kernel
theorem dX2_find_27 : decode cX2_find 27 = .ok (.getfield 25, 3) := by decide +kernel
theorem dX2_find_30 : decode cX2_find 30 = .ok (.iload_n 1, 1) := by decide +kernel
theorem dX2_find_31 : decode cX2_find 31 = .ok (.invokevirtual 42, 3) := by decide +kernel
theorem dX2_find_34 : decode cX2_find 34 = .ok (.bastore, 1) := by decide +kernel
theorem dX2_find_35 : decode cX2_find 35 = .ok (.aload_n 0, 1) := by decide +kernel
theorem dX2_find_36 : decode cX2_find 36 = .ok (.iload_n 1, 1) := by decide +kernel
theorem dX2_find_37 : decode cX2_find 37 = .ok (.invokevirtual 45, 3) := by decide +kernel
theorem dX2_find_40 : decode cX2_find 40 = .ok (.iinc 1 1, 3) := by decide +kernel
theorem dX2_find_43 : decode cX2_find 43 = .ok (.goto (-33), 3) := by decide +kernel
theorem dX2_find_46 : decode cX2_find 46 = .ok (.aload_n 0, 1) := by decide +kernel
theorem dX2_find_47 : decode cX2_find 47 = .ok (.iconst 1, 1) := by decide +kernel
theorem dX2_find_48 : decode cX2_find 48 = .ok (.putfield 29, 3) := by decide +kernel
theorem dX2_find_51 : decode cX2_find 51 = .ok (.return_, 1) := by decide +kernel
set_option maxRecDepth 20000 in
theorem ggX2_findFor_X2_isSplit : GoodIn wsX2_findFor wsX2_isSplit := goodIn_r _ [9, 4, 10, 11, 12, 13, 14, 15, 16, 17, 18, 19, 20, 21, 33, 34, 35, 36, 37, 38, 39, 40, 41, 42, 43, 44] (by decide +kernel) (by decide +kernel)
set_option maxRecDepth 20000 in
theorem gX2_findFor_X2_isSplit : GoodIn wsX2_findFor (wsV RX2 49 RX2 yX2_isSplit wsX2_isSplit) := goodIn_app (goodIn_of _ (by decide +kernel)) ggX2_findFor_X2_isSplit
set_option maxRecDepth 20000 in
theorem ggX2_findFor_X2_addSplit : GoodIn wsX2_findFor wsX2_addSplit := goodIn_r _ [25, 1, 2, 3, 26, 27, 28, 29, 30, 31, 32, 33, 34, 35, 36, 37, 38] (by decide +kernel) (by decide +kernel)
set_option maxRecDepth 20000 in
theorem gX2_findFor_X2_addSplit : GoodIn wsX2_findFor (wsV RX2 53 RX2 yX2_addSplit wsX2_addSplit) := goodIn_app (goodIn_of _ (by decide +kernel)) ggX2_findFor_X2_addSplit
theorem dX2_findFor_0 : decode cX2_findFor 0 = .ok (.aload_n 0, 1) := by decide +kernel
theorem dX2_findFor_1 : decode cX2_findFor 1 = .ok (.getfield 15, 3) := by decide +kernel
theorem dX2_findFor_4 : decode cX2_findFor 4 = .ok (.iload_n 1, 1) := by decide +kernel
theorem dX2_findFor_5 : decode cX2_findFor 5 = .ok (.iconst 0, 1) := by decide +kernel
theorem dX2_findFor_6 : decode cX2_findFor 6 = .ok (.iastore, 1) := by decide +kernel
theorem dX2_findFor_7 : decode cX2_findFor 7 = .ok (.aload_n 0, 1) := by decide +kernel
theorem dX2_findFor_8 : decode cX2_findFor 8 = .ok (.getfield 19, 3) := by decide +kernel
theorem dX2_findFor_11 : decode cX2_findFor 11 = .ok (.iload_n 1, 1) := by decide +kernel
theorem dX2_findFor_12 : decode cX2_findFor 12 = .ok (.iconst 0, 1) := by decide +kernel
theorem dX2_findFor_13 : decode cX2_findFor 13 = .ok (.iastore, 1) := by decide +kernel
theorem dX2_findFor_14 : decode cX2_findFor 14 = .ok (.aload_n 0, 1) := by decide +kernel
theorem dX2_findFor_15 : decode cX2_findFor 15 = .ok (.getfield 22, 3) := by decide +kernel
theorem dX2_findFor_18 : decode cX2_findFor 18 = .ok (.iload_n 1, 1) := by decide +kernel
theorem dX2_findFor_19 : decode cX2_findFor 19 = .ok (.iconst (-1), 1) := by decide +kernel
theorem dX2_findFor_20 : decode cX2_findFor 20 = .ok (.iastore, 1) := by decide +kernel
theorem dX2_findFor_21 : decode cX2_findFor 21 = .ok (.aload_n 0, 1) := by decide +kernel
theorem dX2_findFor_22 : decode cX2_findFor 22 = .ok (.getfield 9, 3) := by decide +kernel
theorem dX2_findFor_25 : decode cX2_findFor 25 = .ok (.iload_n 1, 1) := by decide +kernel
theorem dX2_findFor_26 : decode cX2_findFor 26 = .ok (.baload, 1) := by decide +kernel
theorem dX2_findFor_27 : decode cX2_findFor 27 = .ok (.ifCond .ne 4, 3) := by decide +kernel
theorem dX2_findFor_30 : decode cX2_findFor 30 = .ok (.return_, 1) := by decide +kernel
theorem dX2_findFor_31 : decode cX2_findFor 31 = .ok (.iload_n 1, 1) := by decide +kernel
theorem dX2_findFor_32 : decode cX2_findFor 32 = .ok (.iload_n 1, 1) := by decide +kernel
theorem dX2_findFor_33 : decode cX2_findFor 33 = .ok (.iconst 1, 1) := by decide +kernel
theorem dX2_findFor_34 : decode cX2_findFor 34 = .ok (.isub, 1) := by decide +kernel
theorem dX2_findFor_35 : decode cX2_findFor 35 = .ok (.iand, 1) := by decide +kernel
theorem dX2_findFor_36 : decode cX2_findFor 36 = .ok (.istore_n 2, 1) := by decide +kernel
theorem dX2_findFor_37 : decode cX2_findFor 37 = .ok (.iload_n 2, 1) := by decide +kernel
theorem dX2_findFor_38 : decode cX2_findFor 38 = .ok (.ifCond .ne 17, 3) := by decide +kernel
theorem dX2_findFor_41 : decode cX2_findFor 41 = .ok (.aload_n 0, 1) := by decide +kernel
theorem dX2_findFor_42 : decode cX2_findFor 42 = .ok (.getfield 19, 3) := by decide +kernel
theorem dX2_findFor_45 : decode cX2_findFor 45 = .ok (.iload_n 1, 1) := by decide +kernel
theorem dX2_findFor_46 : decode cX2_findFor 46 = .ok (.iconst 1, 1) := by decide +kernel
theorem dX2_findFor_47 : decode cX2_findFor 47 = .ok (.iastore, 1) := by decide +kernel
theorem dX2_findFor_48 : decode cX2_findFor 48 = .ok (.aload_n 0, 1) := by decide +kernel
theorem dX2_findFor_49 : decode cX2_findFor 49 = .ok (.getfield 22, 3) := by decide +kernel
theorem dX2_findFor_52 : decode cX2_findFor 52 = .ok (.iload_n 1, 1) := by decide +kernel
theorem dX2_findFor_53 : decode cX2_findFor 53 = .ok (.iconst 0, 1) := by decide +kernel
theorem dX2_findFor_54 : decode cX2_findFor 54 = .ok (.iastore, 1) := by decide +kernel
theorem dX2_findFor_55 : decode cX2_findFor 55 = .ok (.iload_n 2, 1) := by decide +kernel
theorem dX2_findFor_56 : decode cX2_findFor 56 = .ok (.istore_n 3, 1) := by decide +kernel
theorem dX2_findFor_57 : decode cX2_findFor 57 = .ok (.iload_n 3, 1) := by decide +kernel
theorem dX2_findFor_58 : decode cX2_findFor 58 = .ok (.ifCond .le 37, 3) := by decide +kernel
theorem dX2_findFor_61 : decode cX2_findFor 61 = .ok (.iload_n 3, 1) := by decide +kernel
theorem dX2_findFor_62 : decode cX2_findFor 62 = .ok (.iload_n 2, 1) := by decide +kernel
theorem dX2_findFor_63 : decode cX2_findFor 63 = .ok (.iconst (-1), 1) := by decide +kernel
theorem dX2_findFor_64 : decode cX2_findFor 64 = .ok (.ixor, 1) := by decide +kernel
theorem dX2_findFor_65 : decode cX2_findFor 65 = .ok (.iand, 1) := by decide +kernel
theorem dX2_findFor_66 : decode cX2_findFor 66 = .ok (.ifCond .ne 23, 3) := by decide +kernel
theorem dX2_findFor_69 : decode cX2_findFor 69 = .ok (.aload_n 0, 1) := by decide +kernel
theorem dX2_findFor_70 : decode cX2_findFor 70 = .ok (.iload_n 1, 1) := by decide +kernel
theorem dX2_findFor_71 : decode cX2_findFor 71 = .ok (.iload_n 3, 1) := by decide +kernel
theorem dX2_findFor_72 : decode cX2_findFor 72 = .ok (.ixor, 1) := by decide +kernel
theorem dX2_findFor_73 : decode cX2_findFor 73 = .ok (.iload_n 3, 1) := by decide +kernel
theorem dX2_findFor_74 : decode cX2_findFor 74 = .ok (.invokevirtual 49, 3) := by decide +kernel
theorem dX2_findFor_77 : decode cX2_findFor 77 = .ok (.ifCond .eq 12, 3) := by decide +kernel
theorem dX2_findFor_80 : decode cX2_findFor 80 = .ok (.aload_n 0, 1) := by decide +kernel
theorem dX2_findFor_81 : decode cX2_findFor 81 = .ok (.iload_n 1, 1) := by decide +kernel
theorem dX2_findFor_82 : decode cX2_findFor 82 = .ok (.iload_n 1, 1) := by decide +kernel
theorem dX2_findFor_83 : decode cX2_findFor 83 = .ok (.iload_n 3, 1) := by decide +kernel
theorem dX2_findFor_84 : decode cX2_findFor 84 = .ok (.ixor, 1) := by decide +kernel
theorem dX2_findFor_85 : decode cX2_findFor 85 = .ok (.iload_n 3, 1) := by decide +kernel
theorem dX2_findFor_86 : decode cX2_findFor 86 = .ok (.invokevirtual 53, 3) := by decide +kernel
theorem dX2_findFor_89 : decode cX2_findFor 89 = .ok (.iinc 3 (-1), 3) := by decide +kernel
theorem dX2_findFor_92 : decode cX2_findFor 92 = .ok (.goto (-35), 3) := by decide +kernel
theorem dX2_findFor_95 : decode cX2_findFor 95 = .ok (.return_, 1) := by decide +kernel
set_option maxRecDepth 20000 in
theorem ggX2_isSplit_X3_separable : GoodIn wsX2_isSplit wsX3_separable := goodIn_r _ [7, 8, 9, 10, 6, 11, 12, 13, 20, 21, 22, 23, 24, 25] (by decide +kernel) (by decide +kernel)
set_option maxRecDepth 20000 in
theorem gX2_isSplit_X3_separable : GoodIn wsX2_isSplit (wsV RX2 57 RX3 yX3_separable wsX3_separable) := goodIn_app (goodIn_of _ (by decide +kernel)) ggX2_isSplit_X3_separable
theorem dX2_isSplit_0 : decode cX2_isSplit 0 = .ok (.aload_n 0, 1) := by decide +kernel
theorem dX2_isSplit_1 : decode cX2_isSplit 1 = .ok (.getfield 9, 3) := by decide +kernel
theorem dX2_isSplit_4 : decode cX2_isSplit 4 = .ok (.iload_n 1, 1) := by decide +kernel
theorem dX2_isSplit_5 : decode cX2_isSplit 5 = .ok (.baload, 1) := by decide +kernel
theorem dX2_isSplit_6 : decode cX2_isSplit 6 = .ok (.ifCond .eq 28, 3) := by decide +kernel
theorem dX2_isSplit_9 : decode cX2_isSplit 9 = .ok (.aload_n 0, 1) := by decide +kernel
theorem dX2_isSplit_10 : decode cX2_isSplit 10 = .ok (.getfield 9, 3) := by decide +kernel
theorem dX2_isSplit_13 : decode cX2_isSplit 13 = .ok (.iload_n 2, 1) := by decide +kernel
theorem dX2_isSplit_14 : decode cX2_isSplit 14 = .ok (.baload, 1) := by decide +kernel
theorem dX2_isSplit_15 : decode cX2_isSplit 15 = .ok (.ifCond .eq 19, 3) := by decide +kernel
theorem dX2_isSplit_18 : decode cX2_isSplit 18 = .ok (.aload_n 0, 1) := by decide +kernel
theorem dX2_isSplit_19 : decode cX2_isSplit 19 = .ok (.getfield 25, 3) := by decide +kernel
theorem dX2_isSplit_22 : decode cX2_isSplit 22 = .ok (.iload_n 1, 1) := by decide +kernel
theorem dX2_isSplit_23 : decode cX2_isSplit 23 = .ok (.iload_n 2, 1) := by decide +kernel
theorem dX2_isSplit_24 : decode cX2_isSplit 24 = .ok (.invokevirtual 57, 3) := by decide +kernel
theorem dX2_isSplit_27 : decode cX2_isSplit 27 = .ok (.ifCond .eq 7, 3) := by decide +kernel
theorem dX2_isSplit_30 : decode cX2_isSplit 30 = .ok (.iconst 1, 1) := by decide +kernel
theorem dX2_isSplit_31 : decode cX2_isSplit 31 = .ok (.goto 4, 3) := by decide +kernel
theorem dX2_isSplit_34 : decode cX2_isSplit 34 = .ok (.iconst 0, 1) := by decide +kernel
theorem dX2_isSplit_35 : decode cX2_isSplit 35 = .ok (.ireturn, 1) := by decide +kernel
theorem dX2_addSplit_0 : decode cX2_addSplit 0 = .ok (.aload_n 0, 1) := by decide +kernel
theorem dX2_addSplit_1 : decode cX2_addSplit 1 = .ok (.getfield 15, 3) := by decide +kernel
theorem dX2_addSplit_4 : decode cX2_addSplit 4 = .ok (.iload_n 1, 1) := by decide +kernel
theorem dX2_addSplit_5 : decode cX2_addSplit 5 = .ok (.dup2, 1) := by decide +kernel
theorem dX2_addSplit_6 : decode cX2_addSplit 6 = .ok (.iaload, 1) := by decide +kernel
theorem dX2_addSplit_7 : decode cX2_addSplit 7 = .ok (.iconst 1, 1) := by decide +kernel
theorem dX2_addSplit_8 : decode cX2_addSplit 8 = .ok (.iadd, 1) := by decide +kernel
theorem dX2_addSplit_9 : decode cX2_addSplit 9 = .ok (.iastore, 1) := by decide +kernel
theorem dX2_addSplit_10 : decode cX2_addSplit 10 = .ok (.aload_n 0, 1) := by decide +kernel
theorem dX2_addSplit_11 : decode cX2_addSplit 11 = .ok (.getfield 19, 3) := by decide +kernel
theorem dX2_addSplit_14 : decode cX2_addSplit 14 = .ok (.iload_n 1, 1) := by decide +kernel
theorem dX2_addSplit_15 : decode cX2_addSplit 15 = .ok (.dup2, 1) := by decide +kernel
theorem dX2_addSplit_16 : decode cX2_addSplit 16 = .ok (.iaload, 1) := by decide +kernel
theorem dX2_addSplit_17 : decode cX2_addSplit 17 = .ok (.aload_n 0, 1) := by decide +kernel
theorem dX2_addSplit_18 : decode cX2_addSplit 18 = .ok (.getfield 19, 3) := by decide +kernel
theorem dX2_addSplit_21 : decode cX2_addSplit 21 = .ok (.iload_n 2, 1) := by decide +kernel
theorem dX2_addSplit_22 : decode cX2_addSplit 22 = .ok (.iaload, 1) := by decide +kernel
theorem dX2_addSplit_23 : decode cX2_addSplit 23 = .ok (.aload_n 0, 1) := by decide +kernel
theorem dX2_addSplit_24 : decode cX2_addSplit 24 = .ok (.getfield 19, 3) := by decide +kernel
theorem dX2_addSplit_27 : decode cX2_addSplit 27 = .ok (.iload_n 3, 1) := by decide +kernel
theorem dX2_addSplit_28 : decode cX2_addSplit 28 = .ok (.iaload, 1) := by decide +kernel
theorem dX2_addSplit_29 : decode cX2_addSplit 29 = .ok (.imul, 1) := by decide +kernel
theorem dX2_addSplit_30 : decode cX2_addSplit 30 = .ok (.iadd, 1) := by decide +kernel
theorem dX2_addSplit_31 : decode cX2_addSplit 31 = .ok (.iastore, 1) := by decide +kernel
theorem dX2_addSplit_32 : decode cX2_addSplit 32 = .ok (.aload_n 0, 1) := by decide +kernel
theorem dX2_addSplit_33 : decode cX2_addSplit 33 = .ok (.getfield 22, 3) := by decide +kernel
theorem dX2_addSplit_36 : decode cX2_addSplit 36 = .ok (.iload_n 2, 1) := by decide +kernel
theorem dX2_addSplit_37 : decode cX2_addSplit 37 = .ok (.iaload, 1) := by decide +kernel
theorem dX2_addSplit_38 : decode cX2_addSplit 38 = .ok (.iconst (-1), 1) := by decide +kernel
theorem dX2_addSplit_39 : decode cX2_addSplit 39 = .ok (.if_icmp .eq 64, 3) := by decide +kernel
theorem dX2_addSplit_42 : decode cX2_addSplit 42 = .ok (.aload_n 0, 1) := by decide +kernel
theorem dX2_addSplit_43 : decode cX2_addSplit 43 = .ok (.getfield 22, 3) := by decide +kernel
theorem dX2_addSplit_46 : decode cX2_addSplit 46 = .ok (.iload_n 3, 1) := by decide +kernel
theorem dX2_addSplit_47 : decode cX2_addSplit 47 = .ok (.iaload, 1) := by decide +kernel
theorem dX2_addSplit_48 : decode cX2_addSplit 48 = .ok (.iconst (-1), 1) := by decide +kernel
theorem dX2_addSplit_49 : decode cX2_addSplit 49 = .ok (.if_icmp .eq 54, 3) := by decide +kernel
theorem dX2_addSplit_52 : decode cX2_addSplit 52 = .ok (.iconst 1, 1) := by decide +kernel
theorem dX2_addSplit_53 : decode cX2_addSplit 53 = .ok (.aload_n 0, 1) := by decide +kernel
theorem dX2_addSplit_54 : decode cX2_addSplit 54 = .ok (.getfield 22, 3) := by decide +kernel
theorem dX2_addSplit_57 : decode cX2_addSplit 57 = .ok (.iload_n 2, 1) := by decide +kernel
theorem dX2_addSplit_58 : decode cX2_addSplit 58 = .ok (.iaload, 1) := by decide +kernel
theorem dX2_addSplit_59 : decode cX2_addSplit 59 = .ok (.aload_n 0, 1) := by decide +kernel
theorem dX2_addSplit_60 : decode cX2_addSplit 60 = .ok (.getfield 22, 3) := by decide +kernel
theorem dX2_addSplit_63 : decode cX2_addSplit 63 = .ok (.iload_n 3, 1) := by decide +kernel
theorem dX2_addSplit_64 : decode cX2_addSplit 64 = .ok (.iaload, 1) := by decide +kernel
theorem dX2_addSplit_65 : decode cX2_addSplit 65 = .ok (.invokestatic 60, 3) := by decide +kernel
theorem dX2_addSplit_68 : decode cX2_addSplit 68 = .ok (.iadd, 1) := by decide +kernel
theorem dX2_addSplit_69 : decode cX2_addSplit 69 = .ok (.istore 4, 2) := by decide +kernel
theorem dX2_addSplit_71 : decode cX2_addSplit 71 = .ok (.aload_n 0, 1) := by decide +kernel
theorem dX2_addSplit_72 : decode cX2_addSplit 72 = .ok (.getfield 22, 3) := by decide +kernel
theorem dX2_addSplit_75 : decode cX2_addSplit 75 = .ok (.iload_n 1, 1) := by decide +kernel
theorem dX2_addSplit_76 : decode cX2_addSplit 76 = .ok (.aload_n 0, 1) := by decide +kernel
theorem dX2_addSplit_77 : decode cX2_addSplit 77 = .ok (.getfield 22, 3) := by decide +kernel
theorem dX2_addSplit_80 : decode cX2_addSplit 80 = .ok (.iload_n 1, 1) := by decide +kernel
theorem dX2_addSplit_81 : decode cX2_addSplit 81 = .ok (.iaload, 1) := by decide +kernel
theorem dX2_addSplit_82 : decode cX2_addSplit 82 = .ok (.iconst (-1), 1) := by decide +kernel
theorem dX2_addSplit_83 : decode cX2_addSplit 83 = .ok (.if_icmp .ne 8, 3) := by decide +kernel
theorem dX2_addSplit_86 : decode cX2_addSplit 86 = .ok (.iload 4, 2) := by decide +kernel
theorem dX2_addSplit_88 : decode cX2_addSplit 88 = .ok (.goto 14, 3) := by decide +kernel
theorem dX2_addSplit_91 : decode cX2_addSplit 91 = .ok (.aload_n 0, 1) := by decide +kernel
theorem dX2_addSplit_92 : decode cX2_addSplit 92 = .ok (.getfield 22, 3) := by decide +kernel
theorem dX2_addSplit_95 : decode cX2_addSplit 95 = .ok (.iload_n 1, 1) := by decide +kernel
theorem dX2_addSplit_96 : decode cX2_addSplit 96 = .ok (.iaload, 1) := by decide +kernel
theorem dX2_addSplit_97 : decode cX2_addSplit 97 = .ok (.iload 4, 2) := by decide +kernel
theorem dX2_addSplit_99 : decode cX2_addSplit 99 = .ok (.invokestatic 66, 3) := by decide +kernel
theorem dX2_addSplit_102 : decode cX2_addSplit 102 = .ok (.iastore, 1) := by decide +kernel
theorem dX2_addSplit_103 : decode cX2_addSplit 103 = .ok (.return_, 1) := by decide +kernel
theorem dX3_init_0 : decode cX3_init 0 = .ok (.aload_n 0, 1) := by decide +kernel
theorem dX3_init_1 : decode cX3_init 1 = .ok (.invokespecial 3, 3) := by decide +kernel
theorem dX3_init_4 : decode cX3_init 4 = .ok (.aload_n 0, 1) := by decide +kernel
theorem dX3_init_5 : decode cX3_init 5 = .ok (.bipush 8, 2) := by decide +kernel
theorem dX3_init_7 : decode cX3_init 7 = .ok (.newarray .int, 2) := by decide +kernel
theorem dX3_init_9 : decode cX3_init 9 = .ok (.putfield 9, 3) := by decide +kernel
theorem dX3_init_12 : decode cX3_init 12 = .ok (.aload_n 0, 1) := by decide +kernel
theorem dX3_init_13 : decode cX3_init 13 = .ok (.bipush 8, 2) := by decide +kernel
theorem dX3_init_15 : decode cX3_init 15 = .ok (.newarray .int, 2) := by decide +kernel
theorem dX3_init_17 : decode cX3_init 17 = .ok (.putfield 15, 3) := by decide +kernel
theorem dX3_init_20 : decode cX3_init 20 = .ok (.aload_n 0, 1) := by decide +kernel
theorem dX3_init_21 : decode cX3_init 21 = .ok (.bipush 48, 2) := by decide +kernel
theorem dX3_init_23 : decode cX3_init 23 = .ok (.newarray .int, 2) := by decide +kernel
theorem dX3_init_25 : decode cX3_init 25 = .ok (.putfield 18, 3) := by decide +kernel
theorem dX3_init_28 : decode cX3_init 28 = .ok (.return_, 1) := by decide +kernel
theorem dX3_count_0 : decode cX3_count 0 = .ok (.aload_n 0, 1) := by decide +kernel
theorem dX3_count_1 : decode cX3_count 1 = .ok (.getfield 21, 3) := by decide +kernel
theorem dX3_count_4 : decode cX3_count 4 = .ok (.ireturn, 1) := by decide +kernel
theorem dX3_all_0 : decode cX3_all 0 = .ok (.iconst 1, 1) := by decide +kernel
theorem dX3_all_1 : decode cX3_all 1 = .ok (.aload_n 0, 1) := by decide +kernel
theorem dX3_all_2 : decode cX3_all 2 = .ok (.getfield 21, 3) := by decide +kernel
theorem dX3_all_5 : decode cX3_all 5 = .ok (.ishl, 1) := by decide +kernel
theorem dX3_all_6 : decode cX3_all 6 = .ok (.iconst 1, 1) := by decide +kernel
theorem dX3_all_7 : decode cX3_all 7 = .ok (.isub, 1) := by decide +kernel
theorem dX3_all_8 : decode cX3_all 8 = .ok (.ireturn, 1) := by decide +kernel
theorem dX3_tool_0 : decode cX3_tool 0 = .ok (.aload_n 0, 1) := by decide +kernel
theorem dX3_tool_1 : decode cX3_tool 1 = .ok (.getfield 9, 3) := by decide +kernel
theorem dX3_tool_4 : decode cX3_tool 4 = .ok (.iload_n 1, 1) := by decide +kernel
theorem dX3_tool_5 : decode cX3_tool 5 = .ok (.iaload, 1) := by decide +kernel
theorem dX3_tool_6 : decode cX3_tool 6 = .ok (.ireturn, 1) := by decide +kernel
theorem dX3_add_0 : decode cX3_add 0 = .ok (.aload_n 0, 1) := by decide +kernel
theorem dX3_add_1 : decode cX3_add 1 = .ok (.getfield 21, 3) := by decide +kernel
theorem dX3_add_4 : decode cX3_add 4 = .ok (.istore_n 2, 1) := by decide +kernel
theorem dX3_add_5 : decode cX3_add 5 = .ok (.aload_n 0, 1) := by decide +kernel
theorem dX3_add_6 : decode cX3_add 6 = .ok (.getfield 9, 3) := by decide +kernel
theorem dX3_add_9 : decode cX3_add 9 = .ok (.iload_n 2, 1) := by decide +kernel
theorem dX3_add_10 : decode cX3_add 10 = .ok (.iload_n 1, 1) := by decide +kernel
theorem dX3_add_11 : decode cX3_add 11 = .ok (.iastore, 1) := by decide +kernel
theorem dX3_add_12 : decode cX3_add 12 = .ok (.aload_n 0, 1) := by decide +kernel
theorem dX3_add_13 : decode cX3_add 13 = .ok (.dup, 1) := by decide +kernel
theorem dX3_add_14 : decode cX3_add 14 = .ok (.getfield 21, 3) := by decide +kernel
theorem dX3_add_17 : decode cX3_add 17 = .ok (.iconst 1, 1) := by decide +kernel
theorem dX3_add_18 : decode cX3_add 18 = .ok (.iadd, 1) := by decide +kernel
theorem dX3_add_19 : decode cX3_add 19 = .ok (.putfield 21, 3) := by decide +kernel
theorem dX3_add_22 : decode cX3_add 22 = .ok (.iload_n 2, 1) := by decide +kernel
theorem dX3_add_23 : decode cX3_add 23 = .ok (.ireturn, 1) := by decide +kernel
theorem dX3_changeTool_0 : decode cX3_changeTool 0 = .ok (.aload_n 0, 1) := by decide +kernel
theorem dX3_changeTool_1 : decode cX3_changeTool 1 = .ok (.getfield 9, 3) := by decide +kernel
theorem dX3_changeTool_4 : decode cX3_changeTool 4 = .ok (.iload_n 1, 1) := by decide +kernel
theorem dX3_changeTool_5 : decode cX3_changeTool 5 = .ok (.iaload, 1) := by decide +kernel
theorem dX3_changeTool_6 : decode cX3_changeTool 6 = .ok (.istore_n 3, 1) := by decide +kernel
theorem dX3_changeTool_7 : decode cX3_changeTool 7 = .ok (.aload_n 0, 1) := by decide +kernel
theorem dX3_changeTool_8 : decode cX3_changeTool 8 = .ok (.getfield 9, 3) := by decide +kernel
theorem dX3_changeTool_11 : decode cX3_changeTool 11 = .ok (.iload_n 1, 1) := by decide +kernel
theorem dX3_changeTool_12 : decode cX3_changeTool 12 = .ok (.iload_n 2, 1) := by decide +kernel
theorem dX3_changeTool_13 : decode cX3_changeTool 13 = .ok (.iastore, 1) := by decide +kernel
theorem dX3_changeTool_14 : decode cX3_changeTool 14 = .ok (.iload_n 3, 1) := by decide +kernel
theorem dX3_changeTool_15 : decode cX3_changeTool 15 = .ok (.ireturn, 1) := by decide +kernel
set_option maxRecDepth 20000 in
theorem ggX3_tellContact_X3_changed : GoodIn wsX3_tellContact wsX3_changed := goodIn_r _ [5] (by decide +kernel) (by decide +kernel)
set_option maxRecDepth 20000 in
theorem gX3_tellContact_X3_changed : GoodIn wsX3_tellContact (va_wsS RX3 25 yX3_changed wsX3_changed) := goodIn_app (goodIn_of _ (by decide +kernel)) ggX3_tellContact_X3_changed
set_option maxRecDepth 20000 in
theorem ggX3_tellContact_J6_bitCount_0f7a4 : GoodIn wsX3_tellContact wsJ6_bitCount_0f7a4 := goodIn_r _ [9, 10, 11, 12] (by decide +kernel) (by decide +kernel)
set_option maxRecDepth 20000 in
theorem gX3_tellContact_J6_bitCount_0f7a4 : GoodIn wsX3_tellContact (va_wsS RX3 29 yJ6_bitCount_0f7a4 wsJ6_bitCount_0f7a4) := goodIn_app (goodIn_of _ (by decide +kernel)) ggX3_tellContact_J6_bitCount_0f7a4
theorem dX3_tellContact_0 : decode cX3_tellContact 0 = .ok (.aload_n 0, 1) := by decide +kernel
theorem dX3_tellContact_1 : decode cX3_tellContact 1 = .ok (.getfield 15, 3) := by decide +kernel
theorem dX3_tellContact_4 : decode cX3_tellContact 4 = .ok (.iload_n 1, 1) := by decide +kernel
theorem dX3_tellContact_5 : decode cX3_tellContact 5 = .ok (.aload_n 0, 1) := by decide +kernel
theorem dX3_tellContact_6 : decode cX3_tellContact 6 = .ok (.getfield 15, 3) := by decide +kernel
theorem dX3_tellContact_9 : decode cX3_tellContact 9 = .ok (.iload_n 1, 1) := by decide +kernel
theorem dX3_tellContact_10 : decode cX3_tellContact 10 = .ok (.iaload, 1) := by decide +kernel
theorem dX3_tellContact_11 : decode cX3_tellContact 11 = .ok (.iload_n 2, 1) := by decide +kernel
theorem dX3_tellContact_12 : decode cX3_tellContact 12 = .ok (.iload_n 3, 1) := by decide +kernel
theorem dX3_tellContact_13 : decode cX3_tellContact 13 = .ok (.invokestatic 25, 3) := by decide +kernel
theorem dX3_tellContact_16 : decode cX3_tellContact 16 = .ok (.iastore, 1) := by decide +kernel
theorem dX3_tellContact_17 : decode cX3_tellContact 17 = .ok (.aload_n 0, 1) := by decide +kernel
theorem dX3_tellContact_18 : decode cX3_tellContact 18 = .ok (.getfield 15, 3) := by decide +kernel
theorem dX3_tellContact_21 : decode cX3_tellContact 21 = .ok (.iload_n 2, 1) := by decide +kernel
theorem dX3_tellContact_22 : decode cX3_tellContact 22 = .ok (.aload_n 0, 1) := by decide +kernel
theorem dX3_tellContact_23 : decode cX3_tellContact 23 = .ok (.getfield 15, 3) := by decide +kernel
theorem dX3_tellContact_26 : decode cX3_tellContact 26 = .ok (.iload_n 2, 1) := by decide +kernel
theorem dX3_tellContact_27 : decode cX3_tellContact 27 = .ok (.iaload, 1) := by decide +kernel
theorem dX3_tellContact_28 : decode cX3_tellContact 28 = .ok (.iload_n 1, 1) := by decide +kernel
theorem dX3_tellContact_29 : decode cX3_tellContact 29 = .ok (.iload_n 3, 1) := by decide +kernel
theorem dX3_tellContact_30 : decode cX3_tellContact 30 = .ok (.invokestatic 25, 3) := by decide +kernel
theorem dX3_tellContact_33 : decode cX3_tellContact 33 = .ok (.iastore, 1) := by decide +kernel
theorem dX3_tellContact_34 : decode cX3_tellContact 34 = .ok (.aload_n 0, 1) := by decide +kernel
theorem dX3_tellContact_35 : decode cX3_tellContact 35 = .ok (.getfield 15, 3) := by decide +kernel
theorem dX3_tellContact_38 : decode cX3_tellContact 38 = .ok (.iload_n 1, 1) := by decide +kernel
theorem dX3_tellContact_39 : decode cX3_tellContact 39 = .ok (.iaload, 1) := by decide +kernel
theorem dX3_tellContact_40 : decode cX3_tellContact 40 = .ok (.invokestatic 29, 3) := by decide +kernel
theorem dX3_tellContact_43 : decode cX3_tellContact 43 = .ok (.ireturn, 1) := by decide +kernel
set_option maxRecDepth 20000 in
theorem ggX3_tellHindered_X3_opposite : GoodIn wsX3_tellHindered wsX3_opposite := goodIn_r _ [5] (by decide +kernel) (by decide +kernel)
set_option maxRecDepth 20000 in
theorem gX3_tellHindered_X3_opposite : GoodIn wsX3_tellHindered (va_wsS RX3 35 yX3_opposite wsX3_opposite) := goodIn_app (goodIn_of _ (by decide +kernel)) ggX3_tellHindered_X3_opposite
set_option maxRecDepth 20000 in
theorem ggX3_tellHindered_X3_changed : GoodIn wsX3_tellHindered wsX3_changed := goodIn_r _ [8] (by decide +kernel) (by decide +kernel)
set_option maxRecDepth 20000 in
theorem gX3_tellHindered_X3_changed : GoodIn wsX3_tellHindered (va_wsS RX3 25 yX3_changed wsX3_changed) := goodIn_app (goodIn_of _ (by decide +kernel)) ggX3_tellHindered_X3_changed
set_option maxRecDepth 20000 in
theorem ggX3_tellHindered_J6_bitCount_0f7a4 : GoodIn wsX3_tellHindered wsJ6_bitCount_0f7a4 := goodIn_r _ [12, 13, 14, 15] (by decide +kernel) (by decide +kernel)
set_option maxRecDepth 20000 in
theorem gX3_tellHindered_J6_bitCount_0f7a4 : GoodIn wsX3_tellHindered (va_wsS RX3 29 yJ6_bitCount_0f7a4 wsJ6_bitCount_0f7a4) := goodIn_app (goodIn_of _ (by decide +kernel)) ggX3_tellHindered_J6_bitCount_0f7a4
theorem dX3_tellHindered_0 : decode cX3_tellHindered 0 = .ok (.iload_n 2, 1) := by decide +kernel
theorem dX3_tellHindered_1 : decode cX3_tellHindered 1 = .ok (.bipush 8, 2) := by decide +kernel
theorem dX3_tellHindered_3 : decode cX3_tellHindered 3 = .ok (.imul, 1) := by decide +kernel
theorem dX3_tellHindered_4 : decode cX3_tellHindered 4 = .ok (.iload_n 1, 1) := by decide +kernel
theorem dX3_tellHindered_5 : decode cX3_tellHindered 5 = .ok (.iadd, 1) := by decide +kernel
theorem dX3_tellHindered_6 : decode cX3_tellHindered 6 = .ok (.istore 5, 2) := by decide +kernel
theorem dX3_tellHindered_8 : decode cX3_tellHindered 8 = .ok (.iload_n 2, 1) := by decide +kernel
theorem dX3_tellHindered_9 : decode cX3_tellHindered 9 = .ok (.invokestatic 35, 3) := by decide +kernel
theorem dX3_tellHindered_12 : decode cX3_tellHindered 12 = .ok (.bipush 8, 2) := by decide +kernel
theorem dX3_tellHindered_14 : decode cX3_tellHindered 14 = .ok (.imul, 1) := by decide +kernel
theorem dX3_tellHindered_15 : decode cX3_tellHindered 15 = .ok (.iload_n 3, 1) := by decide +kernel
theorem dX3_tellHindered_16 : decode cX3_tellHindered 16 = .ok (.iadd, 1) := by decide +kernel
theorem dX3_tellHindered_17 : decode cX3_tellHindered 17 = .ok (.istore 6, 2) := by decide +kernel
theorem dX3_tellHindered_19 : decode cX3_tellHindered 19 = .ok (.aload_n 0, 1) := by decide +kernel
theorem dX3_tellHindered_20 : decode cX3_tellHindered 20 = .ok (.getfield 18, 3) := by decide +kernel
theorem dX3_tellHindered_23 : decode cX3_tellHindered 23 = .ok (.iload 5, 2) := by decide +kernel
theorem dX3_tellHindered_25 : decode cX3_tellHindered 25 = .ok (.aload_n 0, 1) := by decide +kernel
theorem dX3_tellHindered_26 : decode cX3_tellHindered 26 = .ok (.getfield 18, 3) := by decide +kernel
theorem dX3_tellHindered_29 : decode cX3_tellHindered 29 = .ok (.iload 5, 2) := by decide +kernel
theorem dX3_tellHindered_31 : decode cX3_tellHindered 31 = .ok (.iaload, 1) := by decide +kernel
theorem dX3_tellHindered_32 : decode cX3_tellHindered 32 = .ok (.iload_n 3, 1) := by decide +kernel
theorem dX3_tellHindered_33 : decode cX3_tellHindered 33 = .ok (.iload 4, 2) := by decide +kernel
theorem dX3_tellHindered_35 : decode cX3_tellHindered 35 = .ok (.invokestatic 25, 3) := by decide +kernel
theorem dX3_tellHindered_38 : decode cX3_tellHindered 38 = .ok (.iastore, 1) := by decide +kernel
theorem dX3_tellHindered_39 : decode cX3_tellHindered 39 = .ok (.aload_n 0, 1) := by decide +kernel
theorem dX3_tellHindered_40 : decode cX3_tellHindered 40 = .ok (.getfield 18, 3) := by decide +kernel
theorem dX3_tellHindered_43 : decode cX3_tellHindered 43 = .ok (.iload 6, 2) := by decide +kernel
theorem dX3_tellHindered_45 : decode cX3_tellHindered 45 = .ok (.aload_n 0, 1) := by decide +kernel
theorem dX3_tellHindered_46 : decode cX3_tellHindered 46 = .ok (.getfield 18, 3) := by decide +kernel
theorem dX3_tellHindered_49 : decode cX3_tellHindered 49 = .ok (.iload 6, 2) := by decide +kernel
theorem dX3_tellHindered_51 : decode cX3_tellHindered 51 = .ok (.iaload, 1) := by decide +kernel
theorem dX3_tellHindered_52 : decode cX3_tellHindered 52 = .ok (.iload_n 1, 1) := by decide +kernel
theorem dX3_tellHindered_53 : decode cX3_tellHindered 53 = .ok (.iload 4, 2) := by decide +kernel
theorem dX3_tellHindered_55 : decode cX3_tellHindered 55 = .ok (.invokestatic 25, 3) := by decide +kernel
theorem dX3_tellHindered_58 : decode cX3_tellHindered 58 = .ok (.iastore, 1) := by decide +kernel
theorem dX3_tellHindered_59 : decode cX3_tellHindered 59 = .ok (.aload_n 0, 1) := by decide +kernel
theorem dX3_tellHindered_60 : decode cX3_tellHindered 60 = .ok (.getfield 18, 3) := by decide +kernel
theorem dX3_tellHindered_63 : decode cX3_tellHindered 63 = .ok (.iload 5, 2) := by decide +kernel
theorem dX3_tellHindered_65 : decode cX3_tellHindered 65 = .ok (.iaload, 1) := by decide +kernel
theorem dX3_tellHindered_66 : decode cX3_tellHindered 66 = .ok (.invokestatic 29, 3) := by decide +kernel
theorem dX3_tellHindered_69 : decode cX3_tellHindered 69 = .ok (.ireturn, 1) := by decide +kernel
theorem dX3_changeBase_0 : decode cX3_changeBase 0 = .ok (.aload_n 0, 1) := by decide +kernel
theorem dX3_changeBase_1 : decode cX3_changeBase 1 = .ok (.getfield 38, 3) := by decide +kernel
theorem dX3_changeBase_4 : decode cX3_changeBase 4 = .ok (.istore_n 2, 1) := by decide +kernel
theorem dX3_changeBase_5 : decode cX3_changeBase 5 = .ok (.aload_n 0, 1) := by decide +kernel
theorem dX3_changeBase_6 : decode cX3_changeBase 6 = .ok (.iload_n 1, 1) := by decide +kernel
theorem dX3_changeBase_7 : decode cX3_changeBase 7 = .ok (.putfield 38, 3) := by decide +kernel
theorem dX3_changeBase_10 : decode cX3_changeBase 10 = .ok (.iload_n 2, 1) := by decide +kernel
theorem dX3_changeBase_11 : decode cX3_changeBase 11 = .ok (.ireturn, 1) := by decide +kernel
theorem dX3_changeSteadyAsked_0 : decode cX3_changeSteadyAsked 0 = .ok (.aload_n 0, 1) := by decide +kernel
theorem dX3_changeSteadyAsked_1 : decode cX3_changeSteadyAsked 1 = .ok (.getfield 41, 3) := by decide +kernel
theorem dX3_changeSteadyAsked_4 : decode cX3_changeSteadyAsked 4 = .ok (.istore_n 2, 1) := by decide +kernel
theorem dX3_changeSteadyAsked_5 : decode cX3_changeSteadyAsked 5 = .ok (.aload_n 0, 1) := by decide +kernel
theorem dX3_changeSteadyAsked_6 : decode cX3_changeSteadyAsked 6 = .ok (.iload_n 1, 1) := by decide +kernel
theorem dX3_changeSteadyAsked_7 : decode cX3_changeSteadyAsked 7 = .ok (.putfield 41, 3) := by decide +kernel
theorem dX3_changeSteadyAsked_10 : decode cX3_changeSteadyAsked 10 = .ok (.iload_n 2, 1) := by decide +kernel
theorem dX3_changeSteadyAsked_11 : decode cX3_changeSteadyAsked 11 = .ok (.ireturn, 1) := by decide +kernel
set_option maxRecDepth 20000 in
theorem ggX3_connected_X3_reached : GoodIn wsX3_connected wsX3_reached := goodIn_r _ [5] (by decide +kernel) (by decide +kernel)
set_option maxRecDepth 20000 in
theorem gX3_connected_X3_reached : GoodIn wsX3_connected (va_wsS RX3 45 yX3_reached wsX3_reached) := goodIn_app (goodIn_of _ (by decide +kernel)) ggX3_connected_X3_reached
theorem dX3_connected_0 : decode cX3_connected 0 = .ok (.iload_n 1, 1) := by decide +kernel
theorem dX3_connected_1 : decode cX3_connected 1 = .ok (.iload_n 1, 1) := by decide +kernel
theorem dX3_connected_2 : decode cX3_connected 2 = .ok (.ineg, 1) := by decide +kernel
theorem dX3_connected_3 : decode cX3_connected 3 = .ok (.iand, 1) := by decide +kernel
theorem dX3_connected_4 : decode cX3_connected 4 = .ok (.istore_n 2, 1) := by decide +kernel
theorem dX3_connected_5 : decode cX3_connected 5 = .ok (.iload_n 1, 1) := by decide +kernel
theorem dX3_connected_6 : decode cX3_connected 6 = .ok (.ifCond .eq 21, 3) := by decide +kernel
theorem dX3_connected_9 : decode cX3_connected 9 = .ok (.aload_n 0, 1) := by decide +kernel
theorem dX3_connected_10 : decode cX3_connected 10 = .ok (.getfield 15, 3) := by decide +kernel
theorem dX3_connected_13 : decode cX3_connected 13 = .ok (.iconst 0, 1) := by decide +kernel
theorem dX3_connected_14 : decode cX3_connected 14 = .ok (.iload_n 2, 1) := by decide +kernel
theorem dX3_connected_15 : decode cX3_connected 15 = .ok (.iload_n 1, 1) := by decide +kernel
theorem dX3_connected_16 : decode cX3_connected 16 = .ok (.invokestatic 45, 3) := by decide +kernel
theorem dX3_connected_19 : decode cX3_connected 19 = .ok (.iload_n 1, 1) := by decide +kernel
theorem dX3_connected_20 : decode cX3_connected 20 = .ok (.if_icmp .ne 7, 3) := by decide +kernel
theorem dX3_connected_23 : decode cX3_connected 23 = .ok (.iconst 1, 1) := by decide +kernel
theorem dX3_connected_24 : decode cX3_connected 24 = .ok (.goto 4, 3) := by decide +kernel
theorem dX3_connected_27 : decode cX3_connected 27 = .ok (.iconst 0, 1) := by decide +kernel
theorem dX3_connected_28 : decode cX3_connected 28 = .ok (.ireturn, 1) := by decide +kernel
set_option maxRecDepth 20000 in
theorem ggX3_steady_X3_reached : GoodIn wsX3_steady wsX3_reached := goodIn_r _ [6] (by decide +kernel) (by decide +kernel)
set_option maxRecDepth 20000 in
theorem gX3_steady_X3_reached : GoodIn wsX3_steady (va_wsS RX3 45 yX3_reached wsX3_reached) := goodIn_app (goodIn_of _ (by decide +kernel)) ggX3_steady_X3_reached
theorem dX3_steady_0 : decode cX3_steady 0 = .ok (.aload_n 0, 1) := by decide +kernel
theorem dX3_steady_1 : decode cX3_steady 1 = .ok (.getfield 18, 3) := by decide +kernel
theorem dX3_steady_4 : decode cX3_steady 4 = .ok (.bipush 32, 2) := by decide +kernel
theorem dX3_steady_6 : decode cX3_steady 6 = .ok (.iload_n 1, 1) := by decide +kernel
theorem dX3_steady_7 : decode cX3_steady 7 = .ok (.iconst 1, 1) := by decide +kernel
theorem dX3_steady_8 : decode cX3_steady 8 = .ok (.aload_n 0, 1) := by decide +kernel
theorem dX3_steady_9 : decode cX3_steady 9 = .ok (.getfield 38, 3) := by decide +kernel
theorem dX3_steady_12 : decode cX3_steady 12 = .ok (.ishl, 1) := by decide +kernel
theorem dX3_steady_13 : decode cX3_steady 13 = .ok (.iand, 1) := by decide +kernel
theorem dX3_steady_14 : decode cX3_steady 14 = .ok (.iload_n 1, 1) := by decide +kernel
theorem dX3_steady_15 : decode cX3_steady 15 = .ok (.invokestatic 45, 3) := by decide +kernel
theorem dX3_steady_18 : decode cX3_steady 18 = .ok (.iload_n 1, 1) := by decide +kernel
theorem dX3_steady_19 : decode cX3_steady 19 = .ok (.if_icmp .ne 7, 3) := by decide +kernel
theorem dX3_steady_22 : decode cX3_steady 22 = .ok (.iconst 1, 1) := by decide +kernel
theorem dX3_steady_23 : decode cX3_steady 23 = .ok (.goto 4, 3) := by decide +kernel
theorem dX3_steady_26 : decode cX3_steady 26 = .ok (.iconst 0, 1) := by decide +kernel
theorem dX3_steady_27 : decode cX3_steady 27 = .ok (.ireturn, 1) := by decide +kernel
set_option maxRecDepth 20000 in
theorem ggX3_sound_X3_connected : GoodIn wsX3_sound wsX3_connected := goodIn_r _ [6, 7, 8, 9, 5, 10, 17, 18, 19, 20, 21, 22] (by decide +kernel) (by decide +kernel)
set_option maxRecDepth 20000 in
theorem gX3_sound_X3_connected : GoodIn wsX3_sound (wsV RX3 49 RX3 yX3_connected wsX3_connected) := goodIn_app (goodIn_of _ (by decide +kernel)) ggX3_sound_X3_connected
set_option maxRecDepth 20000 in
theorem ggX3_sound_X3_steady : GoodIn wsX3_sound wsX3_steady := goodIn_r _ [14, 15, 16, 8, 9, 5, 10, 17, 18, 19, 20, 21, 22] (by decide +kernel) (by decide +kernel)
set_option maxRecDepth 20000 in
theorem gX3_sound_X3_steady : GoodIn wsX3_sound (wsV RX3 53 RX3 yX3_steady wsX3_steady) := goodIn_app (goodIn_of _ (by decide +kernel)) ggX3_sound_X3_steady
theorem dX3_sound_0 : decode cX3_sound 0 = .ok (.iload_n 1, 1) := by decide +kernel
theorem dX3_sound_1 : decode cX3_sound 1 = .ok (.ifCond .eq 26, 3) := by decide +kernel
theorem dX3_sound_4 : decode cX3_sound 4 = .ok (.aload_n 0, 1) := by decide +kernel
theorem dX3_sound_5 : decode cX3_sound 5 = .ok (.iload_n 1, 1) := by decide +kernel
theorem dX3_sound_6 : decode cX3_sound 6 = .ok (.invokevirtual 49, 3) := by decide +kernel
theorem dX3_sound_9 : decode cX3_sound 9 = .ok (.ifCond .eq 22, 3) := by decide +kernel
theorem dX3_sound_12 : decode cX3_sound 12 = .ok (.aload_n 0, 1) := by decide +kernel
theorem dX3_sound_13 : decode cX3_sound 13 = .ok (.getfield 41, 3) := by decide +kernel
theorem dX3_sound_16 : decode cX3_sound 16 = .ok (.ifCond .eq 11, 3) := by decide +kernel
theorem dX3_sound_19 : decode cX3_sound 19 = .ok (.aload_n 0, 1) := by decide +kernel
theorem dX3_sound_20 : decode cX3_sound 20 = .ok (.iload_n 1, 1) := by decide +kernel
theorem dX3_sound_21 : decode cX3_sound 21 = .ok (.invokevirtual 53, 3) := by decide +kernel
theorem dX3_sound_24 : decode cX3_sound 24 = .ok (.ifCond .eq 7, 3) := by decide +kernel
theorem dX3_sound_27 : decode cX3_sound 27 = .ok (.iconst 1, 1) := by decide +kernel
theorem dX3_sound_28 : decode cX3_sound 28 = .ok (.goto 4, 3) := by decide +kernel
theorem dX3_sound_31 : decode cX3_sound 31 = .ok (.iconst 0, 1) := by decide +kernel
theorem dX3_sound_32 : decode cX3_sound 32 = .ok (.ireturn, 1) := by decide +kernel
theorem dX3_freeDirections_0 : decode cX3_freeDirections 0 = .ok (.iconst 0, 1) := by decide +kernel
theorem dX3_freeDirections_1 : decode cX3_freeDirections 1 = .ok (.istore_n 3, 1) := by decide +kernel
theorem dX3_freeDirections_2 : decode cX3_freeDirections 2 = .ok (.iconst 0, 1) := by decide +kernel
theorem dX3_freeDirections_3 : decode cX3_freeDirections 3 = .ok (.istore 4, 2) := by decide +kernel
theorem dX3_freeDirections_5 : decode cX3_freeDirections 5 = .ok (.iload 4, 2) := by decide +kernel
theorem dX3_freeDirections_7 : decode cX3_freeDirections 7 = .ok (.bipush 6, 2) := by decide +kernel
theorem dX3_freeDirections_9 : decode cX3_freeDirections 9 = .ok (.if_icmp .ge 33, 3) := by decide +kernel
theorem dX3_freeDirections_12 : decode cX3_freeDirections 12 = .ok (.aload_n 0, 1) := by decide +kernel
theorem dX3_freeDirections_13 : decode cX3_freeDirections 13 = .ok (.getfield 18, 3) := by decide +kernel
theorem dX3_freeDirections_16 : decode cX3_freeDirections 16 = .ok (.iload 4, 2) := by decide +kernel
theorem dX3_freeDirections_18 : decode cX3_freeDirections 18 = .ok (.bipush 8, 2) := by decide +kernel
theorem dX3_freeDirections_20 : decode cX3_freeDirections 20 = .ok (.imul, 1) := by decide +kernel
theorem dX3_freeDirections_21 : decode cX3_freeDirections 21 = .ok (.iload_n 2, 1) := by decide +kernel
theorem dX3_freeDirections_22 : decode cX3_freeDirections 22 = .ok (.iadd, 1) := by decide +kernel
theorem dX3_freeDirections_23 : decode cX3_freeDirections 23 = .ok (.iaload, 1) := by decide +kernel
theorem dX3_freeDirections_24 : decode cX3_freeDirections 24 = .ok (.iload_n 1, 1) := by decide +kernel
theorem dX3_freeDirections_25 : decode cX3_freeDirections 25 = .ok (.iand, 1) := by decide +kernel
theorem dX3_freeDirections_26 : decode cX3_freeDirections 26 = .ok (.ifCond .ne 10, 3) := by decide +kernel
theorem dX3_freeDirections_29 : decode cX3_freeDirections 29 = .ok (.iload_n 3, 1) := by decide +kernel
theorem dX3_freeDirections_30 : decode cX3_freeDirections 30 = .ok (.iconst 1, 1) := by decide +kernel
theorem dX3_freeDirections_31 : decode cX3_freeDirections 31 = .ok (.iload 4, 2) := by decide +kernel
theorem dX3_freeDirections_33 : decode cX3_freeDirections 33 = .ok (.ishl, 1) := by decide +kernel
theorem dX3_freeDirections_34 : decode cX3_freeDirections 34 = .ok (.ior, 1) := by decide +kernel
theorem dX3_freeDirections_35 : decode cX3_freeDirections 35 = .ok (.istore_n 3, 1) := by decide +kernel
theorem dX3_freeDirections_36 : decode cX3_freeDirections 36 = .ok (.iinc 4 1, 3) := by decide +kernel
theorem dX3_freeDirections_39 : decode cX3_freeDirections 39 = .ok (.goto (-34), 3) := by decide +kernel
theorem dX3_freeDirections_42 : decode cX3_freeDirections 42 = .ok (.iload_n 3, 1) := by decide +kernel
theorem dX3_freeDirections_43 : decode cX3_freeDirections 43 = .ok (.ireturn, 1) := by decide +kernel
set_option maxRecDepth 20000 in
theorem ggX3_takeable_X3_sound : GoodIn wsX3_takeable wsX3_sound := goodIn_r _ [5, 6, 7, 8, 9, 4, 10, 11, 12, 13, 14, 15, 16, 17, 18, 19, 20, 25, 26, 27, 28, 29, 30] (by decide +kernel) (by decide +kernel)
set_option maxRecDepth 20000 in
theorem gX3_takeable_X3_sound : GoodIn wsX3_takeable (wsV RX3 56 RX3 yX3_sound wsX3_sound) := goodIn_app (goodIn_of _ (by decide +kernel)) ggX3_takeable_X3_sound
set_option maxRecDepth 20000 in
theorem ggX3_takeable_X3_freeDirections : GoodIn wsX3_takeable wsX3_freeDirections := goodIn_r _ [24, 19, 25, 26, 27, 28, 29, 30] (by decide +kernel) (by decide +kernel)
set_option maxRecDepth 20000 in
theorem gX3_takeable_X3_freeDirections : GoodIn wsX3_takeable (wsV RX3 59 RX3 yX3_freeDirections wsX3_freeDirections) := goodIn_app (goodIn_of _ (by decide +kernel)) ggX3_takeable_X3_freeDirections
theorem dX3_takeable_0 : decode cX3_takeable 0 = .ok (.aload_n 0, 1) := by decide +kernel
theorem dX3_takeable_1 : decode cX3_takeable 1 = .ok (.iload_n 1, 1) := by decide +kernel
theorem dX3_takeable_2 : decode cX3_takeable 2 = .ok (.invokevirtual 56, 3) := by decide +kernel
theorem dX3_takeable_5 : decode cX3_takeable 5 = .ok (.ifCond .eq 30, 3) := by decide +kernel
theorem dX3_takeable_8 : decode cX3_takeable 8 = .ok (.aload_n 0, 1) := by decide +kernel
theorem dX3_takeable_9 : decode cX3_takeable 9 = .ok (.iload_n 1, 1) := by decide +kernel
theorem dX3_takeable_10 : decode cX3_takeable 10 = .ok (.iload_n 2, 1) := by decide +kernel
theorem dX3_takeable_11 : decode cX3_takeable 11 = .ok (.invokevirtual 59, 3) := by decide +kernel
theorem dX3_takeable_14 : decode cX3_takeable 14 = .ok (.ifCond .eq 21, 3) := by decide +kernel
theorem dX3_takeable_17 : decode cX3_takeable 17 = .ok (.aload_n 0, 1) := by decide +kernel
theorem dX3_takeable_18 : decode cX3_takeable 18 = .ok (.iload_n 1, 1) := by decide +kernel
theorem dX3_takeable_19 : decode cX3_takeable 19 = .ok (.iconst 1, 1) := by decide +kernel
theorem dX3_takeable_20 : decode cX3_takeable 20 = .ok (.iload_n 2, 1) := by decide +kernel
theorem dX3_takeable_21 : decode cX3_takeable 21 = .ok (.ishl, 1) := by decide +kernel
theorem dX3_takeable_22 : decode cX3_takeable 22 = .ok (.iconst (-1), 1) := by decide +kernel
theorem dX3_takeable_23 : decode cX3_takeable 23 = .ok (.ixor, 1) := by decide +kernel
theorem dX3_takeable_24 : decode cX3_takeable 24 = .ok (.iand, 1) := by decide +kernel
theorem dX3_takeable_25 : decode cX3_takeable 25 = .ok (.invokevirtual 56, 3) := by decide +kernel
theorem dX3_takeable_28 : decode cX3_takeable 28 = .ok (.ifCond .eq 7, 3) := by decide +kernel
theorem dX3_takeable_31 : decode cX3_takeable 31 = .ok (.iconst 1, 1) := by decide +kernel
theorem dX3_takeable_32 : decode cX3_takeable 32 = .ok (.goto 4, 3) := by decide +kernel
theorem dX3_takeable_35 : decode cX3_takeable 35 = .ok (.iconst 0, 1) := by decide +kernel
theorem dX3_takeable_36 : decode cX3_takeable 36 = .ok (.ireturn, 1) := by decide +kernel
set_option maxRecDepth 20000 in
theorem ggX3_movingWith_X3_all : GoodIn wsX3_movingWith wsX3_all := goodIn_r _ [6, 7, 11, 12, 13, 14, 15, 16] (by decide +kernel) (by decide +kernel)
set_option maxRecDepth 20000 in
theorem gX3_movingWith_X3_all : GoodIn wsX3_movingWith (wsV RX3 63 RX3 yX3_all wsX3_all) := goodIn_app (goodIn_of _ (by decide +kernel)) ggX3_movingWith_X3_all
set_option maxRecDepth 20000 in
theorem ggX3_movingWith_X3_reached : GoodIn wsX3_movingWith wsX3_reached := goodIn_r _ [10] (by decide +kernel) (by decide +kernel)
set_option maxRecDepth 20000 in
theorem gX3_movingWith_X3_reached : GoodIn wsX3_movingWith (va_wsS RX3 45 yX3_reached wsX3_reached) := goodIn_app (goodIn_of _ (by decide +kernel)) ggX3_movingWith_X3_reached
theorem dX3_movingWith_0 : decode cX3_movingWith 0 = .ok (.aload_n 0, 1) := by decide +kernel
theorem dX3_movingWith_1 : decode cX3_movingWith 1 = .ok (.getfield 18, 3) := by decide +kernel
theorem dX3_movingWith_4 : decode cX3_movingWith 4 = .ok (.iload_n 2, 1) := by decide +kernel
theorem dX3_movingWith_5 : decode cX3_movingWith 5 = .ok (.bipush 8, 2) := by decide +kernel
theorem dX3_movingWith_7 : decode cX3_movingWith 7 = .ok (.imul, 1) := by decide +kernel
theorem dX3_movingWith_8 : decode cX3_movingWith 8 = .ok (.iconst 1, 1) := by decide +kernel
theorem dX3_movingWith_9 : decode cX3_movingWith 9 = .ok (.iload_n 1, 1) := by decide +kernel
theorem dX3_movingWith_10 : decode cX3_movingWith 10 = .ok (.ishl, 1) := by decide +kernel
theorem dX3_movingWith_11 : decode cX3_movingWith 11 = .ok (.aload_n 0, 1) := by decide +kernel
theorem dX3_movingWith_12 : decode cX3_movingWith 12 = .ok (.invokevirtual 63, 3) := by decide +kernel
theorem dX3_movingWith_15 : decode cX3_movingWith 15 = .ok (.invokestatic 45, 3) := by decide +kernel
theorem dX3_movingWith_18 : decode cX3_movingWith 18 = .ok (.ireturn, 1) := by decide +kernel
set_option maxRecDepth 20000 in
theorem ggX3_boundWith_X3_movingWith : GoodIn wsX3_boundWith wsX3_movingWith := goodIn_r _ [5, 6, 7, 8, 9, 4, 10, 11, 12, 13, 14, 18, 19, 20, 21, 22, 23] (by decide +kernel) (by decide +kernel)
set_option maxRecDepth 20000 in
theorem gX3_boundWith_X3_movingWith : GoodIn wsX3_boundWith (wsV RX3 67 RX3 yX3_movingWith wsX3_movingWith) := goodIn_app (goodIn_of _ (by decide +kernel)) ggX3_boundWith_X3_movingWith
set_option maxRecDepth 20000 in
theorem ggX3_boundWith_X3_opposite : GoodIn wsX3_boundWith wsX3_opposite := goodIn_r _ [17] (by decide +kernel) (by decide +kernel)
set_option maxRecDepth 20000 in
theorem gX3_boundWith_X3_opposite : GoodIn wsX3_boundWith (va_wsS RX3 35 yX3_opposite wsX3_opposite) := goodIn_app (goodIn_of _ (by decide +kernel)) ggX3_boundWith_X3_opposite
theorem dX3_boundWith_0 : decode cX3_boundWith 0 = .ok (.aload_n 0, 1) := by decide +kernel
theorem dX3_boundWith_1 : decode cX3_boundWith 1 = .ok (.iload_n 1, 1) := by decide +kernel
theorem dX3_boundWith_2 : decode cX3_boundWith 2 = .ok (.iload_n 2, 1) := by decide +kernel
theorem dX3_boundWith_3 : decode cX3_boundWith 3 = .ok (.invokevirtual 67, 3) := by decide +kernel
theorem dX3_boundWith_6 : decode cX3_boundWith 6 = .ok (.aload_n 0, 1) := by decide +kernel
theorem dX3_boundWith_7 : decode cX3_boundWith 7 = .ok (.iload_n 1, 1) := by decide +kernel
theorem dX3_boundWith_8 : decode cX3_boundWith 8 = .ok (.iload_n 2, 1) := by decide +kernel
theorem dX3_boundWith_9 : decode cX3_boundWith 9 = .ok (.invokestatic 35, 3) := by decide +kernel
theorem dX3_boundWith_12 : decode cX3_boundWith 12 = .ok (.invokevirtual 67, 3) := by decide +kernel
theorem dX3_boundWith_15 : decode cX3_boundWith 15 = .ok (.iand, 1) := by decide +kernel
theorem dX3_boundWith_16 : decode cX3_boundWith 16 = .ok (.ireturn, 1) := by decide +kernel
set_option maxRecDepth 20000 in
theorem ggX3_boundGroups_X3_boundWith : GoodIn wsX3_boundGroups wsX3_boundWith := goodIn_r _ [6, 7, 8, 9, 5, 10, 11, 12, 13, 14, 15, 1, 16, 17, 18, 19, 20, 21, 22, 23, 24, 25, 26, 27] (by decide +kernel) (by decide +kernel)
set_option maxRecDepth 20000 in
theorem gX3_boundGroups_X3_boundWith : GoodIn wsX3_boundGroups (wsV RX3 70 RX3 yX3_boundWith wsX3_boundWith) := goodIn_app (goodIn_of _ (by decide +kernel)) ggX3_boundGroups_X3_boundWith
theorem dX3_boundGroups_0 : decode cX3_boundGroups 0 = .ok (.iconst 0, 1) := by decide +kernel
theorem dX3_boundGroups_1 : decode cX3_boundGroups 1 = .ok (.istore_n 2, 1) := by decide +kernel
theorem dX3_boundGroups_2 : decode cX3_boundGroups 2 = .ok (.iconst 0, 1) := by decide +kernel
theorem dX3_boundGroups_3 : decode cX3_boundGroups 3 = .ok (.istore_n 3, 1) := by decide +kernel
theorem dX3_boundGroups_4 : decode cX3_boundGroups 4 = .ok (.iload_n 3, 1) := by decide +kernel
theorem dX3_boundGroups_5 : decode cX3_boundGroups 5 = .ok (.aload_n 0, 1) := by decide +kernel
theorem dX3_boundGroups_6 : decode cX3_boundGroups 6 = .ok (.getfield 21, 3) := by decide +kernel
theorem dX3_boundGroups_9 : decode cX3_boundGroups 9 = .ok (.if_icmp .ge 31, 3) := by decide +kernel
theorem dX3_boundGroups_12 : decode cX3_boundGroups 12 = .ok (.iconst 1, 1) := by decide +kernel
theorem dX3_boundGroups_13 : decode cX3_boundGroups 13 = .ok (.iload_n 3, 1) := by decide +kernel
theorem dX3_boundGroups_14 : decode cX3_boundGroups 14 = .ok (.ishl, 1) := by decide +kernel
theorem dX3_boundGroups_15 : decode cX3_boundGroups 15 = .ok (.iconst 1, 1) := by decide +kernel
theorem dX3_boundGroups_16 : decode cX3_boundGroups 16 = .ok (.isub, 1) := by decide +kernel
theorem dX3_boundGroups_17 : decode cX3_boundGroups 17 = .ok (.istore 4, 2) := by decide +kernel
theorem dX3_boundGroups_19 : decode cX3_boundGroups 19 = .ok (.aload_n 0, 1) := by decide +kernel
theorem dX3_boundGroups_20 : decode cX3_boundGroups 20 = .ok (.iload_n 3, 1) := by decide +kernel
theorem dX3_boundGroups_21 : decode cX3_boundGroups 21 = .ok (.iload_n 1, 1) := by decide +kernel
theorem dX3_boundGroups_22 : decode cX3_boundGroups 22 = .ok (.invokevirtual 70, 3) := by decide +kernel
theorem dX3_boundGroups_25 : decode cX3_boundGroups 25 = .ok (.iload 4, 2) := by decide +kernel
theorem dX3_boundGroups_27 : decode cX3_boundGroups 27 = .ok (.iand, 1) := by decide +kernel
theorem dX3_boundGroups_28 : decode cX3_boundGroups 28 = .ok (.ifCond .ne 6, 3) := by decide +kernel
theorem dX3_boundGroups_31 : decode cX3_boundGroups 31 = .ok (.iinc 2 1, 3) := by decide +kernel
theorem dX3_boundGroups_34 : decode cX3_boundGroups 34 = .ok (.iinc 3 1, 3) := by decide +kernel
theorem dX3_boundGroups_37 : decode cX3_boundGroups 37 = .ok (.goto (-33), 3) := by decide +kernel
theorem dX3_boundGroups_40 : decode cX3_boundGroups 40 = .ok (.iload_n 2, 1) := by decide +kernel
theorem dX3_boundGroups_41 : decode cX3_boundGroups 41 = .ok (.ireturn, 1) := by decide +kernel
set_option maxRecDepth 20000 in
theorem ggX3_separable_X3_hindered : GoodIn wsX3_separable wsX3_hindered := goodIn_r _ [5, 6, 7, 8, 9, 10, 11, 12, 13] (by decide +kernel) (by decide +kernel)
set_option maxRecDepth 20000 in
theorem gX3_separable_X3_hindered : GoodIn wsX3_separable (wsV RX3 73 RX3 yX3_hindered wsX3_hindered) := goodIn_app (goodIn_of _ (by decide +kernel)) ggX3_separable_X3_hindered
theorem dX3_separable_0 : decode cX3_separable 0 = .ok (.iconst 0, 1) := by decide +kernel
theorem dX3_separable_1 : decode cX3_separable 1 = .ok (.istore_n 3, 1) := by decide +kernel
theorem dX3_separable_2 : decode cX3_separable 2 = .ok (.iload_n 3, 1) := by decide +kernel
theorem dX3_separable_3 : decode cX3_separable 3 = .ok (.bipush 6, 2) := by decide +kernel
theorem dX3_separable_5 : decode cX3_separable 5 = .ok (.if_icmp .ge 21, 3) := by decide +kernel
theorem dX3_separable_8 : decode cX3_separable 8 = .ok (.aload_n 0, 1) := by decide +kernel
theorem dX3_separable_9 : decode cX3_separable 9 = .ok (.iload_n 1, 1) := by decide +kernel
theorem dX3_separable_10 : decode cX3_separable 10 = .ok (.iload_n 3, 1) := by decide +kernel
theorem dX3_separable_11 : decode cX3_separable 11 = .ok (.iload_n 2, 1) := by decide +kernel
theorem dX3_separable_12 : decode cX3_separable 12 = .ok (.invokevirtual 73, 3) := by decide +kernel
theorem dX3_separable_15 : decode cX3_separable 15 = .ok (.ifCond .ne 5, 3) := by decide +kernel
theorem dX3_separable_18 : decode cX3_separable 18 = .ok (.iconst 1, 1) := by decide +kernel
theorem dX3_separable_19 : decode cX3_separable 19 = .ok (.ireturn, 1) := by decide +kernel
theorem dX3_separable_20 : decode cX3_separable 20 = .ok (.iinc 3 1, 3) := by decide +kernel
theorem dX3_separable_23 : decode cX3_separable 23 = .ok (.goto (-21), 3) := by decide +kernel
theorem dX3_separable_26 : decode cX3_separable 26 = .ok (.iconst 0, 1) := by decide +kernel
theorem dX3_separable_27 : decode cX3_separable 27 = .ok (.ireturn, 1) := by decide +kernel
theorem dX3_hindered_0 : decode cX3_hindered 0 = .ok (.iconst 0, 1) := by decide +kernel
theorem dX3_hindered_1 : decode cX3_hindered 1 = .ok (.istore 4, 2) := by decide +kernel
theorem dX3_hindered_3 : decode cX3_hindered 3 = .ok (.iload 4, 2) := by decide +kernel
theorem dX3_hindered_5 : decode cX3_hindered 5 = .ok (.aload_n 0, 1) := by decide +kernel
theorem dX3_hindered_6 : decode cX3_hindered 6 = .ok (.getfield 21, 3) := by decide +kernel
theorem dX3_hindered_9 : decode cX3_hindered 9 = .ok (.if_icmp .ge 37, 3) := by decide +kernel
theorem dX3_hindered_12 : decode cX3_hindered 12 = .ok (.iload_n 1, 1) := by decide +kernel
theorem dX3_hindered_13 : decode cX3_hindered 13 = .ok (.iconst 1, 1) := by decide +kernel
theorem dX3_hindered_14 : decode cX3_hindered 14 = .ok (.iload 4, 2) := by decide +kernel
theorem dX3_hindered_16 : decode cX3_hindered 16 = .ok (.ishl, 1) := by decide +kernel
theorem dX3_hindered_17 : decode cX3_hindered 17 = .ok (.iand, 1) := by decide +kernel
theorem dX3_hindered_18 : decode cX3_hindered 18 = .ok (.ifCond .eq 22, 3) := by decide +kernel
theorem dX3_hindered_21 : decode cX3_hindered 21 = .ok (.aload_n 0, 1) := by decide +kernel
theorem dX3_hindered_22 : decode cX3_hindered 22 = .ok (.getfield 18, 3) := by decide +kernel
theorem dX3_hindered_25 : decode cX3_hindered 25 = .ok (.iload_n 2, 1) := by decide +kernel
theorem dX3_hindered_26 : decode cX3_hindered 26 = .ok (.bipush 8, 2) := by decide +kernel
theorem dX3_hindered_28 : decode cX3_hindered 28 = .ok (.imul, 1) := by decide +kernel
theorem dX3_hindered_29 : decode cX3_hindered 29 = .ok (.iload 4, 2) := by decide +kernel
theorem dX3_hindered_31 : decode cX3_hindered 31 = .ok (.iadd, 1) := by decide +kernel
theorem dX3_hindered_32 : decode cX3_hindered 32 = .ok (.iaload, 1) := by decide +kernel
theorem dX3_hindered_33 : decode cX3_hindered 33 = .ok (.iload_n 3, 1) := by decide +kernel
theorem dX3_hindered_34 : decode cX3_hindered 34 = .ok (.iand, 1) := by decide +kernel
theorem dX3_hindered_35 : decode cX3_hindered 35 = .ok (.ifCond .eq 5, 3) := by decide +kernel
theorem dX3_hindered_38 : decode cX3_hindered 38 = .ok (.iconst 1, 1) := by decide +kernel
theorem dX3_hindered_39 : decode cX3_hindered 39 = .ok (.ireturn, 1) := by decide +kernel
theorem dX3_hindered_40 : decode cX3_hindered 40 = .ok (.iinc 4 1, 3) := by decide +kernel
theorem dX3_hindered_43 : decode cX3_hindered 43 = .ok (.goto (-40), 3) := by decide +kernel
theorem dX3_hindered_46 : decode cX3_hindered 46 = .ok (.iconst 0, 1) := by decide +kernel
theorem dX3_hindered_47 : decode cX3_hindered 47 = .ok (.ireturn, 1) := by decide +kernel
theorem dX3_opposite_0 : decode cX3_opposite 0 = .ok (.iload_n 0, 1) := by decide +kernel
theorem dX3_opposite_1 : decode cX3_opposite 1 = .ok (.iconst 1, 1) := by decide +kernel
theorem dX3_opposite_2 : decode cX3_opposite 2 = .ok (.ixor, 1) := by decide +kernel
theorem dX3_opposite_3 : decode cX3_opposite 3 = .ok (.ireturn, 1) := by decide +kernel
theorem dX3_changed_0 : decode cX3_changed 0 = .ok (.iload_n 2, 1) := by decide +kernel
theorem dX3_changed_1 : decode cX3_changed 1 = .ok (.ifCond .eq 11, 3) := by decide +kernel
theorem dX3_changed_4 : decode cX3_changed 4 = .ok (.iload_n 0, 1) := by decide +kernel
theorem dX3_changed_5 : decode cX3_changed 5 = .ok (.iconst 1, 1) := by decide +kernel
theorem dX3_changed_6 : decode cX3_changed 6 = .ok (.iload_n 1, 1) := by decide +kernel
theorem dX3_changed_7 : decode cX3_changed 7 = .ok (.ishl, 1) := by decide +kernel
theorem dX3_changed_8 : decode cX3_changed 8 = .ok (.ior, 1) := by decide +kernel
theorem dX3_changed_9 : decode cX3_changed 9 = .ok (.goto 10, 3) := by decide +kernel
theorem dX3_changed_12 : decode cX3_changed 12 = .ok (.iload_n 0, 1) := by decide +kernel
theorem dX3_changed_13 : decode cX3_changed 13 = .ok (.iconst 1, 1) := by decide +kernel
theorem dX3_changed_14 : decode cX3_changed 14 = .ok (.iload_n 1, 1) := by decide +kernel
theorem dX3_changed_15 : decode cX3_changed 15 = .ok (.ishl, 1) := by decide +kernel
theorem dX3_changed_16 : decode cX3_changed 16 = .ok (.iconst (-1), 1) := by decide +kernel
theorem dX3_changed_17 : decode cX3_changed 17 = .ok (.ixor, 1) := by decide +kernel
theorem dX3_changed_18 : decode cX3_changed 18 = .ok (.iand, 1) := by decide +kernel
theorem dX3_changed_19 : decode cX3_changed 19 = .ok (.ireturn, 1) := by decide +kernel
theorem dX3_reached_0 : decode cX3_reached 0 = .ok (.iload_n 2, 1) := by decide +kernel
theorem dX3_reached_1 : decode cX3_reached 1 = .ok (.istore 4, 2) := by decide +kernel
theorem dX3_reached_3 : decode cX3_reached 3 = .ok (.iconst 1, 1) := by decide +kernel
theorem dX3_reached_4 : decode cX3_reached 4 = .ok (.istore 5, 2) := by decide +kernel
theorem dX3_reached_6 : decode cX3_reached 6 = .ok (.iload 5, 2) := by decide +kernel
theorem dX3_reached_8 : decode cX3_reached 8 = .ok (.bipush 8, 2) := by decide +kernel
theorem dX3_reached_10 : decode cX3_reached 10 = .ok (.if_icmp .ge 48, 3) := by decide +kernel
theorem dX3_reached_13 : decode cX3_reached 13 = .ok (.iconst 0, 1) := by decide +kernel
theorem dX3_reached_14 : decode cX3_reached 14 = .ok (.istore 6, 2) := by decide +kernel
theorem dX3_reached_16 : decode cX3_reached 16 = .ok (.iload 6, 2) := by decide +kernel
theorem dX3_reached_18 : decode cX3_reached 18 = .ok (.bipush 8, 2) := by decide +kernel
theorem dX3_reached_20 : decode cX3_reached 20 = .ok (.if_icmp .ge 32, 3) := by decide +kernel
theorem dX3_reached_23 : decode cX3_reached 23 = .ok (.iload 4, 2) := by decide +kernel
theorem dX3_reached_25 : decode cX3_reached 25 = .ok (.iconst 1, 1) := by decide +kernel
theorem dX3_reached_26 : decode cX3_reached 26 = .ok (.iload 6, 2) := by decide +kernel
theorem dX3_reached_28 : decode cX3_reached 28 = .ok (.ishl, 1) := by decide +kernel
theorem dX3_reached_29 : decode cX3_reached 29 = .ok (.iand, 1) := by decide +kernel
theorem dX3_reached_30 : decode cX3_reached 30 = .ok (.ifCond .eq 16, 3) := by decide +kernel
theorem dX3_reached_33 : decode cX3_reached 33 = .ok (.iload 4, 2) := by decide +kernel
theorem dX3_reached_35 : decode cX3_reached 35 = .ok (.aload_n 0, 1) := by decide +kernel
theorem dX3_reached_36 : decode cX3_reached 36 = .ok (.iload_n 1, 1) := by decide +kernel
theorem dX3_reached_37 : decode cX3_reached 37 = .ok (.iload 6, 2) := by decide +kernel
theorem dX3_reached_39 : decode cX3_reached 39 = .ok (.iadd, 1) := by decide +kernel
theorem dX3_reached_40 : decode cX3_reached 40 = .ok (.iaload, 1) := by decide +kernel
theorem dX3_reached_41 : decode cX3_reached 41 = .ok (.iload_n 3, 1) := by decide +kernel
theorem dX3_reached_42 : decode cX3_reached 42 = .ok (.iand, 1) := by decide +kernel
theorem dX3_reached_43 : decode cX3_reached 43 = .ok (.ior, 1) := by decide +kernel
theorem dX3_reached_44 : decode cX3_reached 44 = .ok (.istore 4, 2) := by decide +kernel
theorem dX3_reached_46 : decode cX3_reached 46 = .ok (.iinc 6 1, 3) := by decide +kernel
theorem dX3_reached_49 : decode cX3_reached 49 = .ok (.goto (-33), 3) := by decide +kernel
theorem dX3_reached_52 : decode cX3_reached 52 = .ok (.iinc 5 1, 3) := by decide +kernel
theorem dX3_reached_55 : decode cX3_reached 55 = .ok (.goto (-49), 3) := by decide +kernel
theorem dX3_reached_58 : decode cX3_reached 58 = .ok (.iload 4, 2) := by decide +kernel
theorem dX3_reached_60 : decode cX3_reached 60 = .ok (.ireturn, 1) := by decide +kernel
set_option maxRecDepth 20000 in
theorem ggX4_init_X3_init : GoodIn wsX4_init wsX3_init := goodIn_r _ [21, 22, 2, 3, 23, 24, 25, 26, 55, 56, 57, 58, 59, 60] (by decide +kernel) (by decide +kernel)
set_option maxRecDepth 20000 in
theorem gX4_init_X3_init_n11 : GoodIn wsX4_init (wsX3_init) := ggX4_init_X3_init
set_option maxRecDepth 20000 in
theorem ggX4_init_X2_init : GoodIn wsX4_init wsX2_init := goodIn_r _ [29, 30, 2, 3, 31, 32, 23, 33, 34, 35, 36, 65, 66, 67, 68, 69, 70] (by decide +kernel) (by decide +kernel)
set_option maxRecDepth 20000 in
theorem gX4_init_X2_init : GoodIn wsX4_init (wsX2_init) := ggX4_init_X2_init
set_option maxRecDepth 20000 in
theorem ggX4_init_X1_init : GoodIn wsX4_init wsX1_init := goodIn_r _ [39, 40, 2, 3, 31, 41, 23, 42, 43, 44, 45, 46, 71, 72, 73, 74, 75, 76, 77, 78] (by decide +kernel) (by decide +kernel)
set_option maxRecDepth 20000 in
theorem gX4_init_X1_init : GoodIn wsX4_init (wsX1_init) := ggX4_init_X1_init
set_option maxRecDepth 20000 in
theorem ggX4_init_X0_init : GoodIn wsX4_init wsX0_init := goodIn_r _ [49, 50, 2, 3, 23, 51, 52, 53, 54, 79, 80, 81, 82, 83, 84, 85, 86] (by decide +kernel) (by decide +kernel)
set_option maxRecDepth 20000 in
theorem gX4_init_X0_init : GoodIn wsX4_init (wsX0_init) := ggX4_init_X0_init
end
section
theorem dX4_init_0 : decode cX4_init 0 = .ok (.aload_n 0, 1) := by decide +kernel
theorem dX4_init_1 : decode cX4_init 1 = .ok (.invokespecial 3, 3) := by decide +kernel
theorem dX4_init_4 : decode cX4_init 4 = .ok (.aload_n 0, 1) := by decide +kernel
theorem dX4_init_5 : decode cX4_init 5 = .ok (.new 9, 3) := by decide +kernel
theorem dX4_init_8 : decode cX4_init 8 = .ok (.dup, 1) := by decide +kernel
theorem dX4_init_9 : decode cX4_init 9 = .ok (.invokespecial 11, 3) := by decide +kernel
theorem dX4_init_12 : decode cX4_init 12 = .ok (.putfield 12, 3) := by decide +kernel
theorem dX4_init_15 : decode cX4_init 15 = .ok (.aload_n 0, 1) := by decide +kernel
theorem dX4_init_16 : decode cX4_init 16 = .ok (.new 16, 3) := by decide +kernel
theorem dX4_init_19 : decode cX4_init 19 = .ok (.dup, 1) := by decide +kernel
theorem dX4_init_20 : decode cX4_init 20 = .ok (.aload_n 0, 1) := by decide +kernel
theorem dX4_init_21 : decode cX4_init 21 = .ok (.getfield 12, 3) := by decide +kernel
theorem dX4_init_24 : decode cX4_init 24 = .ok (.invokespecial 18, 3) := by decide +kernel
theorem dX4_init_27 : decode cX4_init 27 = .ok (.putfield 21, 3) := by decide +kernel
theorem dX4_init_30 : decode cX4_init 30 = .ok (.aload_n 0, 1) := by decide +kernel
theorem dX4_init_31 : decode cX4_init 31 = .ok (.new 25, 3) := by decide +kernel
theorem dX4_init_34 : decode cX4_init 34 = .ok (.dup, 1) := by decide +kernel
theorem dX4_init_35 : decode cX4_init 35 = .ok (.aload_n 0, 1) := by decide +kernel
theorem dX4_init_36 : decode cX4_init 36 = .ok (.getfield 12, 3) := by decide +kernel
theorem dX4_init_39 : decode cX4_init 39 = .ok (.invokespecial 27, 3) := by decide +kernel
theorem dX4_init_42 : decode cX4_init 42 = .ok (.putfield 28, 3) := by decide +kernel
theorem dX4_init_45 : decode cX4_init 45 = .ok (.aload_n 0, 1) := by decide +kernel
theorem dX4_init_46 : decode cX4_init 46 = .ok (.new 32, 3) := by decide +kernel
theorem dX4_init_49 : decode cX4_init 49 = .ok (.dup, 1) := by decide +kernel
theorem dX4_init_50 : decode cX4_init 50 = .ok (.aload_n 0, 1) := by decide +kernel
theorem dX4_init_51 : decode cX4_init 51 = .ok (.getfield 12, 3) := by decide +kernel
theorem dX4_init_54 : decode cX4_init 54 = .ok (.invokespecial 34, 3) := by decide +kernel
theorem dX4_init_57 : decode cX4_init 57 = .ok (.putfield 35, 3) := by decide +kernel
theorem dX4_init_60 : decode cX4_init 60 = .ok (.return_, 1) := by decide +kernel
set_option maxRecDepth 20000 in
theorem ggX4_addPart_X4_needTool : GoodIn wsX4_addPart wsX4_needTool := goodIn_ca (goodIn_r _ [8, 9, 10] (by decide +kernel) (by decide +kernel)) (goodIn_sub (fun _ h => List.mem_cons_of_mem _ (List.mem_append_right _ h)) (by decide +kernel))
set_option maxRecDepth 20000 in
theorem gX4_addPart_X4_needTool : GoodIn wsX4_addPart (wsV RX4 39 RX4 yX4_needTool wsX4_needTool) := goodIn_app (goodIn_of _ (by decide +kernel)) ggX4_addPart_X4_needTool
set_option maxRecDepth 20000 in
theorem ggX4_addPart_X3_count : GoodIn wsX4_addPart wsX3_count := goodIn_r _ [15, 16, 56, 57, 58, 59, 60, 61] (by decide +kernel) (by decide +kernel)
set_option maxRecDepth 20000 in
theorem gX4_addPart_X3_count : GoodIn wsX4_addPart (wsV RX4 43 RX3 yX3_count wsX3_count) := goodIn_app (goodIn_of _ (by decide +kernel)) ggX4_addPart_X3_count
set_option maxRecDepth 20000 in
theorem ggX4_addPart_X4_productIsTold : GoodIn wsX4_addPart wsX4_productIsTold := goodIn_r _ [20, 21, 22, 23, 24, 25, 26, 27, 28, 29, 30, 31, 32, 33, 34, 35, 36, 37, 38, 39, 40, 41, 42, 43, 44, 45, 46, 52, 53, 54, 55, 62, 63, 64, 65, 66, 67, 68, 69, 70, 71, 72, 73, 74, 75, 76, 77, 78, 79, 80, 81, 82, 83] (by decide +kernel) (by decide +kernel)
set_option maxRecDepth 20000 in
theorem gX4_addPart_X4_productIsTold : GoodIn wsX4_addPart (wsV RX4 54 RX4 yX4_productIsTold wsX4_productIsTold) := goodIn_app (goodIn_of _ (by decide +kernel)) ggX4_addPart_X4_productIsTold
set_option maxRecDepth 20000 in
theorem ggX4_addPart_X3_add : GoodIn wsX4_addPart wsX3_add := goodIn_r _ [50, 16, 51, 56, 57, 58, 59, 60, 61] (by decide +kernel) (by decide +kernel)
set_option maxRecDepth 20000 in
theorem gX4_addPart_X3_add : GoodIn wsX4_addPart (wsV RX4 57 RX3 yX3_add wsX3_add) := goodIn_app (goodIn_of _ (by decide +kernel)) ggX4_addPart_X3_add
theorem dX4_addPart_0 : decode cX4_addPart 0 = .ok (.aload_n 0, 1) := by decide +kernel
theorem dX4_addPart_1 : decode cX4_addPart 1 = .ok (.iload_n 1, 1) := by decide +kernel
theorem dX4_addPart_2 : decode cX4_addPart 2 = .ok (.invokevirtual 39, 3) := by decide +kernel
theorem dX4_addPart_5 : decode cX4_addPart 5 = .ok (.aload_n 0, 1) := by decide +kernel
theorem dX4_addPart_6 : decode cX4_addPart 6 = .ok (.getfield 12, 3) := by decide +kernel
theorem dX4_addPart_9 : decode cX4_addPart 9 = .ok (.invokevirtual 43, 3) := by decide +kernel
theorem dX4_addPart_12 : decode cX4_addPart 12 = .ok (.bipush 8, 2) := by decide +kernel
theorem dX4_addPart_14 : decode cX4_addPart 14 = .ok (.if_icmp .lt 13, 3) := by decide +kernel
theorem dX4_addPart_17 : decode cX4_addPart 17 = .ok (.new 47, 3) := by decide +kernel
theorem dX4_addPart_20 : decode cX4_addPart 20 = .ok (.dup, 1) := by decide +kernel
theorem dX4_addPart_21 : decode cX4_addPart 21 = .ok (.ldc 49, 2) := by decide +kernel
theorem dX4_addPart_23 : decode cX4_addPart 23 = .ok (.invokespecial 51, 3) := by decide +kernel
theorem dX4_addPart_26 : decode cX4_addPart 26 = .ok (.athrow, 1) := by decide +kernel
theorem dX4_addPart_27 : decode cX4_addPart 27 = .ok (.aload_n 0, 1) := by decide +kernel
theorem dX4_addPart_28 : decode cX4_addPart 28 = .ok (.invokevirtual 54, 3) := by decide +kernel
theorem dX4_addPart_31 : decode cX4_addPart 31 = .ok (.aload_n 0, 1) := by decide +kernel
theorem dX4_addPart_32 : decode cX4_addPart 32 = .ok (.getfield 12, 3) := by decide +kernel
theorem dX4_addPart_35 : decode cX4_addPart 35 = .ok (.iload_n 1, 1) := by decide +kernel
theorem dX4_addPart_36 : decode cX4_addPart 36 = .ok (.invokevirtual 57, 3) := by decide +kernel
theorem dX4_addPart_39 : decode cX4_addPart 39 = .ok (.ireturn, 1) := by decide +kernel
set_option maxRecDepth 20000 in
theorem ggX4_setTool_X4_needPart : GoodIn wsX4_setTool wsX4_needPart := goodIn_ca (goodIn_r _ [6, 7, 8, 1, 9, 10, 11, 12, 13, 14, 56, 57, 58, 59, 60, 61, 62, 63, 64, 65] (by decide +kernel) (by decide +kernel)) (goodIn_sub (fun _ h => List.mem_cons_of_mem _ (List.mem_append_left _ (List.mem_append_right _ h))) (by decide +kernel))
set_option maxRecDepth 20000 in
theorem gX4_setTool_X4_needPart : GoodIn wsX4_setTool (wsV RX4 61 RX4 yX4_needPart wsX4_needPart) := goodIn_app (goodIn_of _ (by decide +kernel)) ggX4_setTool_X4_needPart
set_option maxRecDepth 20000 in
theorem ggX4_setTool_X4_needTool : GoodIn wsX4_setTool wsX4_needTool := goodIn_ca (goodIn_r _ [18, 19, 20] (by decide +kernel) (by decide +kernel)) (goodIn_sub (fun _ h => List.mem_cons_of_mem _ (List.mem_append_right _ h)) (by decide +kernel))
set_option maxRecDepth 20000 in
theorem gX4_setTool_X4_needTool : GoodIn wsX4_setTool (wsV RX4 39 RX4 yX4_needTool wsX4_needTool) := goodIn_app (goodIn_of _ (by decide +kernel)) ggX4_setTool_X4_needTool
set_option maxRecDepth 20000 in
theorem ggX4_setTool_X4_productIsTold : GoodIn wsX4_setTool wsX4_productIsTold := goodIn_r _ [24, 25, 26, 27, 28, 29, 30, 31, 32, 33, 34, 35, 36, 37, 38, 39, 40, 41, 42, 43, 44, 45, 46, 47, 48, 49, 50, 56, 57, 58, 59, 66, 67, 68, 69, 70, 71, 72, 73, 74, 75, 76, 77, 78, 79, 80, 81, 82, 83, 84, 85, 86, 87] (by decide +kernel) (by decide +kernel)
set_option maxRecDepth 20000 in
theorem gX4_setTool_X4_productIsTold : GoodIn wsX4_setTool (wsV RX4 54 RX4 yX4_productIsTold wsX4_productIsTold) := goodIn_app (goodIn_of _ (by decide +kernel)) ggX4_setTool_X4_productIsTold
set_option maxRecDepth 20000 in
theorem ggX4_setTool_X3_changeTool : GoodIn wsX4_setTool wsX3_changeTool := goodIn_r _ [54, 55, 60, 61, 62, 63, 64, 65] (by decide +kernel) (by decide +kernel)
set_option maxRecDepth 20000 in
theorem gX4_setTool_X3_changeTool : GoodIn wsX4_setTool (wsV RX4 64 RX3 yX3_changeTool wsX3_changeTool) := goodIn_app (goodIn_of _ (by decide +kernel)) ggX4_setTool_X3_changeTool
theorem dX4_setTool_0 : decode cX4_setTool 0 = .ok (.aload_n 0, 1) := by decide +kernel
theorem dX4_setTool_1 : decode cX4_setTool 1 = .ok (.iload_n 1, 1) := by decide +kernel
theorem dX4_setTool_2 : decode cX4_setTool 2 = .ok (.invokevirtual 61, 3) := by decide +kernel
theorem dX4_setTool_5 : decode cX4_setTool 5 = .ok (.aload_n 0, 1) := by decide +kernel
theorem dX4_setTool_6 : decode cX4_setTool 6 = .ok (.iload_n 2, 1) := by decide +kernel
theorem dX4_setTool_7 : decode cX4_setTool 7 = .ok (.invokevirtual 39, 3) := by decide +kernel
theorem dX4_setTool_10 : decode cX4_setTool 10 = .ok (.aload_n 0, 1) := by decide +kernel
theorem dX4_setTool_11 : decode cX4_setTool 11 = .ok (.invokevirtual 54, 3) := by decide +kernel
theorem dX4_setTool_14 : decode cX4_setTool 14 = .ok (.aload_n 0, 1) := by decide +kernel
theorem dX4_setTool_15 : decode cX4_setTool 15 = .ok (.getfield 12, 3) := by decide +kernel
theorem dX4_setTool_18 : decode cX4_setTool 18 = .ok (.iload_n 1, 1) := by decide +kernel
theorem dX4_setTool_19 : decode cX4_setTool 19 = .ok (.iload_n 2, 1) := by decide +kernel
theorem dX4_setTool_20 : decode cX4_setTool 20 = .ok (.invokevirtual 64, 3) := by decide +kernel
theorem dX4_setTool_23 : decode cX4_setTool 23 = .ok (.ireturn, 1) := by decide +kernel
set_option maxRecDepth 20000 in
theorem ggX4_contact_X4_needPart : GoodIn wsX4_contact wsX4_needPart := goodIn_ca (goodIn_r _ [6, 7, 8, 1, 9, 10, 11, 12, 13, 14, 66, 67, 68, 69, 70, 71, 72, 73, 74, 75] (by decide +kernel) (by decide +kernel)) (goodIn_sub (fun _ h => List.mem_cons_of_mem _ (List.mem_append_left _ (List.mem_append_right _ h))) (by decide +kernel))
set_option maxRecDepth 20000 in
theorem gX4_contact_X4_needPart : GoodIn wsX4_contact (wsV RX4 61 RX4 yX4_needPart wsX4_needPart) := goodIn_app (goodIn_of _ (by decide +kernel)) ggX4_contact_X4_needPart
set_option maxRecDepth 20000 in
theorem ggX4_contact_X4_needDifferent : GoodIn wsX4_contact wsX4_needDifferent := goodIn_ca (goodIn_r _ [18, 19, 20] (by decide +kernel) (by decide +kernel)) (goodIn_sub (fun _ h => List.mem_cons_of_mem _ (List.mem_append_right _ h)) (by decide +kernel))
set_option maxRecDepth 20000 in
theorem gX4_contact_X4_needDifferent : GoodIn wsX4_contact (wsV RX4 68 RX4 yX4_needDifferent wsX4_needDifferent) := goodIn_app (goodIn_of _ (by decide +kernel)) ggX4_contact_X4_needDifferent
set_option maxRecDepth 20000 in
theorem ggX4_contact_X4_productIsTold : GoodIn wsX4_contact wsX4_productIsTold := goodIn_r _ [24, 25, 26, 27, 28, 29, 30, 31, 32, 33, 34, 35, 36, 37, 38, 39, 40, 41, 42, 43, 44, 45, 46, 47, 48, 49, 50, 66, 67, 68, 69, 76, 77, 78, 79, 80, 81, 82, 83, 84, 85, 86, 87, 88, 89, 90, 91, 92, 93, 94, 95, 96, 97] (by decide +kernel) (by decide +kernel)
set_option maxRecDepth 20000 in
theorem gX4_contact_X4_productIsTold : GoodIn wsX4_contact (wsV RX4 54 RX4 yX4_productIsTold wsX4_productIsTold) := goodIn_app (goodIn_of _ (by decide +kernel)) ggX4_contact_X4_productIsTold
set_option maxRecDepth 20000 in
theorem ggX4_contact_X3_tellContact : GoodIn wsX4_contact wsX3_tellContact := goodIn_r _ [54, 55, 56, 57, 12, 58, 59, 60, 61, 62, 63, 64, 65, 70, 71, 72, 73, 74, 75] (by decide +kernel) (by decide +kernel)
set_option maxRecDepth 20000 in
theorem gX4_contact_X3_tellContact : GoodIn wsX4_contact (wsV RX4 72 RX3 yX3_tellContact wsX3_tellContact) := goodIn_app (goodIn_of _ (by decide +kernel)) ggX4_contact_X3_tellContact
theorem dX4_contact_0 : decode cX4_contact 0 = .ok (.aload_n 0, 1) := by decide +kernel
theorem dX4_contact_1 : decode cX4_contact 1 = .ok (.iload_n 1, 1) := by decide +kernel
theorem dX4_contact_2 : decode cX4_contact 2 = .ok (.invokevirtual 61, 3) := by decide +kernel
theorem dX4_contact_5 : decode cX4_contact 5 = .ok (.aload_n 0, 1) := by decide +kernel
theorem dX4_contact_6 : decode cX4_contact 6 = .ok (.iload_n 2, 1) := by decide +kernel
theorem dX4_contact_7 : decode cX4_contact 7 = .ok (.invokevirtual 61, 3) := by decide +kernel
theorem dX4_contact_10 : decode cX4_contact 10 = .ok (.aload_n 0, 1) := by decide +kernel
theorem dX4_contact_11 : decode cX4_contact 11 = .ok (.iload_n 1, 1) := by decide +kernel
theorem dX4_contact_12 : decode cX4_contact 12 = .ok (.iload_n 2, 1) := by decide +kernel
theorem dX4_contact_13 : decode cX4_contact 13 = .ok (.invokevirtual 68, 3) := by decide +kernel
theorem dX4_contact_16 : decode cX4_contact 16 = .ok (.aload_n 0, 1) := by decide +kernel
theorem dX4_contact_17 : decode cX4_contact 17 = .ok (.invokevirtual 54, 3) := by decide +kernel
theorem dX4_contact_20 : decode cX4_contact 20 = .ok (.aload_n 0, 1) := by decide +kernel
theorem dX4_contact_21 : decode cX4_contact 21 = .ok (.getfield 12, 3) := by decide +kernel
theorem dX4_contact_24 : decode cX4_contact 24 = .ok (.iload_n 1, 1) := by decide +kernel
theorem dX4_contact_25 : decode cX4_contact 25 = .ok (.iload_n 2, 1) := by decide +kernel
theorem dX4_contact_26 : decode cX4_contact 26 = .ok (.iload_n 3, 1) := by decide +kernel
theorem dX4_contact_27 : decode cX4_contact 27 = .ok (.invokevirtual 72, 3) := by decide +kernel
theorem dX4_contact_30 : decode cX4_contact 30 = .ok (.ireturn, 1) := by decide +kernel
set_option maxRecDepth 20000 in
theorem ggX4_hinder_X4_needPart : GoodIn wsX4_hinder wsX4_needPart := goodIn_ca (goodIn_r _ [6, 7, 8, 1, 9, 10, 11, 12, 13, 14, 73, 74, 75, 76, 77, 78, 79, 80, 81, 82] (by decide +kernel) (by decide +kernel)) (goodIn_sub (fun _ h => List.mem_cons_of_mem _ (List.mem_append_left _ (List.mem_append_right _ h))) (by decide +kernel))
set_option maxRecDepth 20000 in
theorem gX4_hinder_X4_needPart : GoodIn wsX4_hinder (wsV RX4 61 RX4 yX4_needPart wsX4_needPart) := goodIn_app (goodIn_of _ (by decide +kernel)) ggX4_hinder_X4_needPart
set_option maxRecDepth 20000 in
theorem ggX4_hinder_X4_needDirection : GoodIn wsX4_hinder wsX4_needDirection := goodIn_ca (goodIn_r _ [18, 7, 8] (by decide +kernel) (by decide +kernel)) (goodIn_sub (fun _ h => List.mem_cons_of_mem _ (List.mem_append_left _ (List.mem_append_right _ h))) (by decide +kernel))
set_option maxRecDepth 20000 in
theorem gX4_hinder_X4_needDirection : GoodIn wsX4_hinder (wsV RX4 76 RX4 yX4_needDirection wsX4_needDirection) := goodIn_app (goodIn_of _ (by decide +kernel)) ggX4_hinder_X4_needDirection
set_option maxRecDepth 20000 in
theorem ggX4_hinder_X4_needDifferent : GoodIn wsX4_hinder wsX4_needDifferent := goodIn_ca (goodIn_r _ [22, 23, 24] (by decide +kernel) (by decide +kernel)) (goodIn_sub (fun _ h => List.mem_cons_of_mem _ (List.mem_append_right _ h)) (by decide +kernel))
set_option maxRecDepth 20000 in
theorem gX4_hinder_X4_needDifferent : GoodIn wsX4_hinder (wsV RX4 68 RX4 yX4_needDifferent wsX4_needDifferent) := goodIn_app (goodIn_of _ (by decide +kernel)) ggX4_hinder_X4_needDifferent
set_option maxRecDepth 20000 in
theorem ggX4_hinder_X4_productIsTold : GoodIn wsX4_hinder wsX4_productIsTold := goodIn_r _ [28, 29, 30, 31, 32, 33, 34, 35, 36, 37, 38, 39, 40, 41, 42, 43, 44, 45, 46, 47, 48, 49, 50, 51, 52, 53, 54, 73, 74, 75, 76, 83, 84, 85, 86, 87, 88, 89, 90, 91, 92, 93, 94, 95, 96, 97, 98, 99, 100, 101, 102, 103, 104] (by decide +kernel) (by decide +kernel)
set_option maxRecDepth 20000 in
theorem gX4_hinder_X4_productIsTold : GoodIn wsX4_hinder (wsV RX4 54 RX4 yX4_productIsTold wsX4_productIsTold) := goodIn_app (goodIn_of _ (by decide +kernel)) ggX4_hinder_X4_productIsTold
set_option maxRecDepth 20000 in
theorem ggX4_hinder_X3_tellHindered : GoodIn wsX4_hinder wsX3_tellHindered := goodIn_r _ [58, 59, 60, 61, 12, 62, 63, 64, 65, 66, 67, 68, 69, 70, 71, 72, 77, 78, 79, 80, 81, 82] (by decide +kernel) (by decide +kernel)
set_option maxRecDepth 20000 in
theorem gX4_hinder_X3_tellHindered : GoodIn wsX4_hinder (wsV RX4 79 RX3 yX3_tellHindered wsX3_tellHindered) := goodIn_app (goodIn_of _ (by decide +kernel)) ggX4_hinder_X3_tellHindered
theorem dX4_hinder_0 : decode cX4_hinder 0 = .ok (.aload_n 0, 1) := by decide +kernel
theorem dX4_hinder_1 : decode cX4_hinder 1 = .ok (.iload_n 1, 1) := by decide +kernel
theorem dX4_hinder_2 : decode cX4_hinder 2 = .ok (.invokevirtual 61, 3) := by decide +kernel
theorem dX4_hinder_5 : decode cX4_hinder 5 = .ok (.aload_n 0, 1) := by decide +kernel
theorem dX4_hinder_6 : decode cX4_hinder 6 = .ok (.iload_n 2, 1) := by decide +kernel
theorem dX4_hinder_7 : decode cX4_hinder 7 = .ok (.invokevirtual 76, 3) := by decide +kernel
theorem dX4_hinder_10 : decode cX4_hinder 10 = .ok (.aload_n 0, 1) := by decide +kernel
theorem dX4_hinder_11 : decode cX4_hinder 11 = .ok (.iload_n 3, 1) := by decide +kernel
theorem dX4_hinder_12 : decode cX4_hinder 12 = .ok (.invokevirtual 61, 3) := by decide +kernel
theorem dX4_hinder_15 : decode cX4_hinder 15 = .ok (.aload_n 0, 1) := by decide +kernel
theorem dX4_hinder_16 : decode cX4_hinder 16 = .ok (.iload_n 1, 1) := by decide +kernel
theorem dX4_hinder_17 : decode cX4_hinder 17 = .ok (.iload_n 3, 1) := by decide +kernel
theorem dX4_hinder_18 : decode cX4_hinder 18 = .ok (.invokevirtual 68, 3) := by decide +kernel
theorem dX4_hinder_21 : decode cX4_hinder 21 = .ok (.aload_n 0, 1) := by decide +kernel
theorem dX4_hinder_22 : decode cX4_hinder 22 = .ok (.invokevirtual 54, 3) := by decide +kernel
theorem dX4_hinder_25 : decode cX4_hinder 25 = .ok (.aload_n 0, 1) := by decide +kernel
theorem dX4_hinder_26 : decode cX4_hinder 26 = .ok (.getfield 12, 3) := by decide +kernel
theorem dX4_hinder_29 : decode cX4_hinder 29 = .ok (.iload_n 1, 1) := by decide +kernel
theorem dX4_hinder_30 : decode cX4_hinder 30 = .ok (.iload_n 2, 1) := by decide +kernel
theorem dX4_hinder_31 : decode cX4_hinder 31 = .ok (.iload_n 3, 1) := by decide +kernel
theorem dX4_hinder_32 : decode cX4_hinder 32 = .ok (.iload 4, 2) := by decide +kernel
theorem dX4_hinder_34 : decode cX4_hinder 34 = .ok (.invokevirtual 79, 3) := by decide +kernel
theorem dX4_hinder_37 : decode cX4_hinder 37 = .ok (.ireturn, 1) := by decide +kernel
set_option maxRecDepth 20000 in
theorem ggX4_setBase_X4_needPart : GoodIn wsX4_setBase wsX4_needPart := goodIn_ca (goodIn_r _ [6, 7, 8, 1, 9, 10, 11, 12, 13, 14, 50, 51, 52, 53, 54, 55, 56, 57, 58, 59] (by decide +kernel) (by decide +kernel)) (goodIn_sub (fun _ h => List.mem_cons_of_mem _ (List.mem_append_right _ h)) (by decide +kernel))
set_option maxRecDepth 20000 in
theorem gX4_setBase_X4_needPart : GoodIn wsX4_setBase (wsV RX4 61 RX4 yX4_needPart wsX4_needPart) := goodIn_app (goodIn_of _ (by decide +kernel)) ggX4_setBase_X4_needPart
set_option maxRecDepth 20000 in
theorem ggX4_setBase_X4_productIsTold : GoodIn wsX4_setBase wsX4_productIsTold := goodIn_r _ [18, 19, 20, 21, 22, 23, 24, 25, 26, 27, 28, 29, 30, 31, 32, 33, 34, 35, 36, 37, 38, 39, 40, 41, 42, 43, 44, 50, 51, 52, 53, 60, 61, 62, 63, 64, 65, 66, 67, 68, 69, 70, 71, 72, 73, 74, 75, 76, 77, 78, 79, 80, 81] (by decide +kernel) (by decide +kernel)
set_option maxRecDepth 20000 in
theorem gX4_setBase_X4_productIsTold : GoodIn wsX4_setBase (wsV RX4 54 RX4 yX4_productIsTold wsX4_productIsTold) := goodIn_app (goodIn_of _ (by decide +kernel)) ggX4_setBase_X4_productIsTold
set_option maxRecDepth 20000 in
theorem ggX4_setBase_X3_changeBase : GoodIn wsX4_setBase wsX3_changeBase := goodIn_r _ [48, 49, 54, 55, 56, 57, 58, 59] (by decide +kernel) (by decide +kernel)
set_option maxRecDepth 20000 in
theorem gX4_setBase_X3_changeBase : GoodIn wsX4_setBase (wsV RX4 83 RX3 yX3_changeBase wsX3_changeBase) := goodIn_app (goodIn_of _ (by decide +kernel)) ggX4_setBase_X3_changeBase
theorem dX4_setBase_0 : decode cX4_setBase 0 = .ok (.aload_n 0, 1) := by decide +kernel
theorem dX4_setBase_1 : decode cX4_setBase 1 = .ok (.iload_n 1, 1) := by decide +kernel
theorem dX4_setBase_2 : decode cX4_setBase 2 = .ok (.invokevirtual 61, 3) := by decide +kernel
theorem dX4_setBase_5 : decode cX4_setBase 5 = .ok (.aload_n 0, 1) := by decide +kernel
theorem dX4_setBase_6 : decode cX4_setBase 6 = .ok (.invokevirtual 54, 3) := by decide +kernel
theorem dX4_setBase_9 : decode cX4_setBase 9 = .ok (.aload_n 0, 1) := by decide +kernel
theorem dX4_setBase_10 : decode cX4_setBase 10 = .ok (.getfield 12, 3) := by decide +kernel
theorem dX4_setBase_13 : decode cX4_setBase 13 = .ok (.iload_n 1, 1) := by decide +kernel
theorem dX4_setBase_14 : decode cX4_setBase 14 = .ok (.invokevirtual 83, 3) := by decide +kernel
theorem dX4_setBase_17 : decode cX4_setBase 17 = .ok (.ireturn, 1) := by decide +kernel
set_option maxRecDepth 20000 in
theorem ggX4_askSteady_X4_productIsTold : GoodIn wsX4_askSteady wsX4_productIsTold := goodIn_r _ [6, 7, 8, 9, 10, 11, 12, 13, 14, 15, 16, 17, 18, 19, 20, 21, 22, 23, 24, 25, 26, 27, 28, 29, 30, 31, 32, 39, 40, 41, 42, 43, 44, 45, 46, 47, 48, 49, 50, 51, 52, 53, 54, 55, 56, 57, 58, 59, 60, 61, 62, 63, 64] (by decide +kernel) (by decide +kernel)
set_option maxRecDepth 20000 in
theorem gX4_askSteady_X4_productIsTold : GoodIn wsX4_askSteady (wsV RX4 54 RX4 yX4_productIsTold wsX4_productIsTold) := goodIn_app (goodIn_of _ (by decide +kernel)) ggX4_askSteady_X4_productIsTold
set_option maxRecDepth 20000 in
theorem ggX4_askSteady_X3_changeSteadyAsked : GoodIn wsX4_askSteady wsX3_changeSteadyAsked := goodIn_r _ [37, 38, 65, 66, 67, 68, 69, 70] (by decide +kernel) (by decide +kernel)
set_option maxRecDepth 20000 in
theorem gX4_askSteady_X3_changeSteadyAsked : GoodIn wsX4_askSteady (wsV RX4 86 RX3 yX3_changeSteadyAsked wsX3_changeSteadyAsked) := goodIn_app (goodIn_of _ (by decide +kernel)) ggX4_askSteady_X3_changeSteadyAsked
theorem dX4_askSteady_0 : decode cX4_askSteady 0 = .ok (.aload_n 0, 1) := by decide +kernel
theorem dX4_askSteady_1 : decode cX4_askSteady 1 = .ok (.invokevirtual 54, 3) := by decide +kernel
theorem dX4_askSteady_4 : decode cX4_askSteady 4 = .ok (.aload_n 0, 1) := by decide +kernel
theorem dX4_askSteady_5 : decode cX4_askSteady 5 = .ok (.getfield 12, 3) := by decide +kernel
theorem dX4_askSteady_8 : decode cX4_askSteady 8 = .ok (.iload_n 1, 1) := by decide +kernel
theorem dX4_askSteady_9 : decode cX4_askSteady 9 = .ok (.invokevirtual 86, 3) := by decide +kernel
theorem dX4_askSteady_12 : decode cX4_askSteady 12 = .ok (.ireturn, 1) := by decide +kernel
set_option maxRecDepth 20000 in
theorem ggX4_parts_X3_count : GoodIn wsX4_parts wsX3_count := goodIn_r _ [6, 7, 12, 13, 14, 15, 16, 17] (by decide +kernel) (by decide +kernel)
set_option maxRecDepth 20000 in
theorem gX4_parts_X3_count : GoodIn wsX4_parts (wsV RX4 43 RX3 yX3_count wsX3_count) := goodIn_app (goodIn_of _ (by decide +kernel)) ggX4_parts_X3_count
theorem dX4_parts_0 : decode cX4_parts 0 = .ok (.aload_n 0, 1) := by decide +kernel
theorem dX4_parts_1 : decode cX4_parts 1 = .ok (.getfield 12, 3) := by decide +kernel
theorem dX4_parts_4 : decode cX4_parts 4 = .ok (.invokevirtual 43, 3) := by decide +kernel
theorem dX4_parts_7 : decode cX4_parts 7 = .ok (.ireturn, 1) := by decide +kernel
set_option maxRecDepth 20000 in
theorem ggX4_isConnected_X4_needSet : GoodIn wsX4_isConnected wsX4_needSet := goodIn_ca (goodIn_r _ [6, 7, 8, 1, 9, 10, 11, 12, 13, 14, 23, 24, 25, 26, 27, 28, 29, 30, 31, 32] (by decide +kernel) (by decide +kernel)) (goodIn_sub (fun _ h => List.mem_cons_of_mem _ (List.mem_append_right _ h)) (by decide +kernel))
set_option maxRecDepth 20000 in
theorem gX4_isConnected_X4_needSet : GoodIn wsX4_isConnected (wsV RX4 90 RX4 yX4_needSet wsX4_needSet) := goodIn_app (goodIn_of _ (by decide +kernel)) ggX4_isConnected_X4_needSet
set_option maxRecDepth 20000 in
theorem ggX4_isConnected_X3_connected : GoodIn wsX4_isConnected wsX3_connected := goodIn_r _ [18, 19, 20, 21, 12, 22, 27, 28, 29, 30, 31, 32] (by decide +kernel) (by decide +kernel)
set_option maxRecDepth 20000 in
theorem gX4_isConnected_X3_connected : GoodIn wsX4_isConnected (wsV RX4 93 RX3 yX3_connected wsX3_connected) := goodIn_app (goodIn_of _ (by decide +kernel)) ggX4_isConnected_X3_connected
theorem dX4_isConnected_0 : decode cX4_isConnected 0 = .ok (.aload_n 0, 1) := by decide +kernel
theorem dX4_isConnected_1 : decode cX4_isConnected 1 = .ok (.iload_n 1, 1) := by decide +kernel
theorem dX4_isConnected_2 : decode cX4_isConnected 2 = .ok (.invokevirtual 90, 3) := by decide +kernel
theorem dX4_isConnected_5 : decode cX4_isConnected 5 = .ok (.aload_n 0, 1) := by decide +kernel
theorem dX4_isConnected_6 : decode cX4_isConnected 6 = .ok (.getfield 12, 3) := by decide +kernel
theorem dX4_isConnected_9 : decode cX4_isConnected 9 = .ok (.iload_n 1, 1) := by decide +kernel
theorem dX4_isConnected_10 : decode cX4_isConnected 10 = .ok (.invokevirtual 93, 3) := by decide +kernel
theorem dX4_isConnected_13 : decode cX4_isConnected 13 = .ok (.ireturn, 1) := by decide +kernel
set_option maxRecDepth 20000 in
theorem ggX4_isSteady_X4_needSet : GoodIn wsX4_isSteady wsX4_needSet := goodIn_ca (goodIn_r _ [6, 7, 8, 1, 9, 10, 11, 12, 13, 14, 24, 25, 26, 27, 28, 29, 30, 31, 32, 33] (by decide +kernel) (by decide +kernel)) (goodIn_sub (fun _ h => List.mem_cons_of_mem _ (List.mem_append_right _ h)) (by decide +kernel))
set_option maxRecDepth 20000 in
theorem gX4_isSteady_X4_needSet : GoodIn wsX4_isSteady (wsV RX4 90 RX4 yX4_needSet wsX4_needSet) := goodIn_app (goodIn_of _ (by decide +kernel)) ggX4_isSteady_X4_needSet
set_option maxRecDepth 20000 in
theorem ggX4_isSteady_X3_steady : GoodIn wsX4_isSteady wsX3_steady := goodIn_r _ [18, 19, 20, 21, 22, 12, 23, 28, 29, 30, 31, 32, 33] (by decide +kernel) (by decide +kernel)
set_option maxRecDepth 20000 in
theorem gX4_isSteady_X3_steady : GoodIn wsX4_isSteady (wsV RX4 97 RX3 yX3_steady wsX3_steady) := goodIn_app (goodIn_of _ (by decide +kernel)) ggX4_isSteady_X3_steady
theorem dX4_isSteady_0 : decode cX4_isSteady 0 = .ok (.aload_n 0, 1) := by decide +kernel
theorem dX4_isSteady_1 : decode cX4_isSteady 1 = .ok (.iload_n 1, 1) := by decide +kernel
theorem dX4_isSteady_2 : decode cX4_isSteady 2 = .ok (.invokevirtual 90, 3) := by decide +kernel
theorem dX4_isSteady_5 : decode cX4_isSteady 5 = .ok (.aload_n 0, 1) := by decide +kernel
theorem dX4_isSteady_6 : decode cX4_isSteady 6 = .ok (.getfield 12, 3) := by decide +kernel
theorem dX4_isSteady_9 : decode cX4_isSteady 9 = .ok (.iload_n 1, 1) := by decide +kernel
theorem dX4_isSteady_10 : decode cX4_isSteady 10 = .ok (.invokevirtual 97, 3) := by decide +kernel
theorem dX4_isSteady_13 : decode cX4_isSteady 13 = .ok (.ireturn, 1) := by decide +kernel
set_option maxRecDepth 20000 in
theorem ggX4_free_X4_needPart : GoodIn wsX4_free wsX4_needPart := goodIn_ca (goodIn_r _ [6, 7, 8, 1, 9, 10, 11, 12, 13, 14, 34, 35, 36, 37, 38, 39, 40, 41, 42, 43] (by decide +kernel) (by decide +kernel)) (goodIn_sub (fun _ h => List.mem_cons_of_mem _ (List.mem_append_left _ (List.mem_append_right _ h))) (by decide +kernel))
set_option maxRecDepth 20000 in
theorem gX4_free_X4_needPart : GoodIn wsX4_free (wsV RX4 61 RX4 yX4_needPart wsX4_needPart) := goodIn_app (goodIn_of _ (by decide +kernel)) ggX4_free_X4_needPart
set_option maxRecDepth 20000 in
theorem ggX4_free_X4_needSetWith : GoodIn wsX4_free wsX4_needSetWith := goodIn_ca (goodIn_r _ [18, 19, 20, 21, 22, 23, 5, 24, 1, 25, 26, 27, 12, 28, 14, 34, 35, 36, 37, 38, 39, 40, 41, 42, 43] (by decide +kernel) (by decide +kernel)) (goodIn_sub (fun _ h => List.mem_cons_of_mem _ (List.mem_append_right _ h)) (by decide +kernel))
set_option maxRecDepth 20000 in
theorem gX4_free_X4_needSetWith : GoodIn wsX4_free (wsV RX4 100 RX4 yX4_needSetWith wsX4_needSetWith) := goodIn_app (goodIn_of _ (by decide +kernel)) ggX4_free_X4_needSetWith
set_option maxRecDepth 20000 in
theorem ggX4_free_X3_freeDirections : GoodIn wsX4_free wsX3_freeDirections := goodIn_r _ [32, 33, 38, 39, 40, 41, 42, 43] (by decide +kernel) (by decide +kernel)
set_option maxRecDepth 20000 in
theorem gX4_free_X3_freeDirections : GoodIn wsX4_free (wsV RX4 103 RX3 yX3_freeDirections wsX3_freeDirections) := goodIn_app (goodIn_of _ (by decide +kernel)) ggX4_free_X3_freeDirections
theorem dX4_free_0 : decode cX4_free 0 = .ok (.aload_n 0, 1) := by decide +kernel
theorem dX4_free_1 : decode cX4_free 1 = .ok (.iload_n 2, 1) := by decide +kernel
theorem dX4_free_2 : decode cX4_free 2 = .ok (.invokevirtual 61, 3) := by decide +kernel
theorem dX4_free_5 : decode cX4_free 5 = .ok (.aload_n 0, 1) := by decide +kernel
theorem dX4_free_6 : decode cX4_free 6 = .ok (.iload_n 1, 1) := by decide +kernel
theorem dX4_free_7 : decode cX4_free 7 = .ok (.iload_n 2, 1) := by decide +kernel
theorem dX4_free_8 : decode cX4_free 8 = .ok (.invokevirtual 100, 3) := by decide +kernel
theorem dX4_free_11 : decode cX4_free 11 = .ok (.aload_n 0, 1) := by decide +kernel
theorem dX4_free_12 : decode cX4_free 12 = .ok (.getfield 12, 3) := by decide +kernel
theorem dX4_free_15 : decode cX4_free 15 = .ok (.iload_n 1, 1) := by decide +kernel
theorem dX4_free_16 : decode cX4_free 16 = .ok (.iload_n 2, 1) := by decide +kernel
theorem dX4_free_17 : decode cX4_free 17 = .ok (.invokevirtual 103, 3) := by decide +kernel
theorem dX4_free_20 : decode cX4_free 20 = .ok (.ireturn, 1) := by decide +kernel
set_option maxRecDepth 20000 in
theorem ggX4_canTake_X4_needPart : GoodIn wsX4_canTake wsX4_needPart := goodIn_ca (goodIn_r _ [6, 7, 8, 1, 9, 10, 11, 12, 13, 14, 56, 57, 58, 59, 60, 61, 62, 63, 64, 65] (by decide +kernel) (by decide +kernel)) (goodIn_sub (fun _ h => List.mem_cons_of_mem _ (List.mem_append_left _ (List.mem_append_right _ h))) (by decide +kernel))
set_option maxRecDepth 20000 in
theorem gX4_canTake_X4_needPart : GoodIn wsX4_canTake (wsV RX4 61 RX4 yX4_needPart wsX4_needPart) := goodIn_app (goodIn_of _ (by decide +kernel)) ggX4_canTake_X4_needPart
set_option maxRecDepth 20000 in
theorem ggX4_canTake_X4_needSetWith : GoodIn wsX4_canTake wsX4_needSetWith := goodIn_ca (goodIn_r _ [18, 19, 20, 21, 22, 23, 5, 24, 1, 25, 26, 27, 12, 28, 14, 56, 57, 58, 59, 60, 61, 62, 63, 64, 65] (by decide +kernel) (by decide +kernel)) (goodIn_sub (fun _ h => List.mem_cons_of_mem _ (List.mem_append_right _ h)) (by decide +kernel))
set_option maxRecDepth 20000 in
theorem gX4_canTake_X4_needSetWith : GoodIn wsX4_canTake (wsV RX4 100 RX4 yX4_needSetWith wsX4_needSetWith) := goodIn_app (goodIn_of _ (by decide +kernel)) ggX4_canTake_X4_needSetWith
set_option maxRecDepth 20000 in
theorem ggX4_canTake_X3_takeable : GoodIn wsX4_canTake wsX3_takeable := goodIn_r _ [32, 33, 34, 35, 12, 36, 37, 38, 39, 40, 41, 42, 43, 44, 45, 46, 47, 48, 49, 50, 51, 52, 53, 54, 55, 60, 61, 62, 63, 64, 65] (by decide +kernel) (by decide +kernel)
set_option maxRecDepth 20000 in
theorem gX4_canTake_X3_takeable : GoodIn wsX4_canTake (wsV RX4 106 RX3 yX3_takeable wsX3_takeable) := goodIn_app (goodIn_of _ (by decide +kernel)) ggX4_canTake_X3_takeable
theorem dX4_canTake_0 : decode cX4_canTake 0 = .ok (.aload_n 0, 1) := by decide +kernel
theorem dX4_canTake_1 : decode cX4_canTake 1 = .ok (.iload_n 2, 1) := by decide +kernel
theorem dX4_canTake_2 : decode cX4_canTake 2 = .ok (.invokevirtual 61, 3) := by decide +kernel
theorem dX4_canTake_5 : decode cX4_canTake 5 = .ok (.aload_n 0, 1) := by decide +kernel
theorem dX4_canTake_6 : decode cX4_canTake 6 = .ok (.iload_n 1, 1) := by decide +kernel
theorem dX4_canTake_7 : decode cX4_canTake 7 = .ok (.iload_n 2, 1) := by decide +kernel
theorem dX4_canTake_8 : decode cX4_canTake 8 = .ok (.invokevirtual 100, 3) := by decide +kernel
theorem dX4_canTake_11 : decode cX4_canTake 11 = .ok (.aload_n 0, 1) := by decide +kernel
theorem dX4_canTake_12 : decode cX4_canTake 12 = .ok (.getfield 12, 3) := by decide +kernel
theorem dX4_canTake_15 : decode cX4_canTake 15 = .ok (.iload_n 1, 1) := by decide +kernel
theorem dX4_canTake_16 : decode cX4_canTake 16 = .ok (.iload_n 2, 1) := by decide +kernel
theorem dX4_canTake_17 : decode cX4_canTake 17 = .ok (.invokevirtual 106, 3) := by decide +kernel
theorem dX4_canTake_20 : decode cX4_canTake 20 = .ok (.ireturn, 1) := by decide +kernel
set_option maxRecDepth 20000 in
theorem ggX4_movesWith_X4_needPart : GoodIn wsX4_movesWith wsX4_needPart := goodIn_ca (goodIn_r _ [6, 7, 8, 1, 9, 10, 11, 12, 13, 14, 31, 32, 33, 34, 35, 36, 37, 38, 39, 40] (by decide +kernel) (by decide +kernel)) (goodIn_sub (fun _ h => List.mem_cons_of_mem _ (List.mem_append_right _ h)) (by decide +kernel))
set_option maxRecDepth 20000 in
theorem gX4_movesWith_X4_needPart : GoodIn wsX4_movesWith (wsV RX4 61 RX4 yX4_needPart wsX4_needPart) := goodIn_app (goodIn_of _ (by decide +kernel)) ggX4_movesWith_X4_needPart
set_option maxRecDepth 20000 in
theorem ggX4_movesWith_X4_needDirection : GoodIn wsX4_movesWith wsX4_needDirection := goodIn_ca (goodIn_r _ [18, 7, 8] (by decide +kernel) (by decide +kernel)) (goodIn_sub (fun _ h => List.mem_cons_of_mem _ (List.mem_append_right _ h)) (by decide +kernel))
set_option maxRecDepth 20000 in
theorem gX4_movesWith_X4_needDirection : GoodIn wsX4_movesWith (wsV RX4 76 RX4 yX4_needDirection wsX4_needDirection) := goodIn_app (goodIn_of _ (by decide +kernel)) ggX4_movesWith_X4_needDirection
set_option maxRecDepth 20000 in
theorem ggX4_movesWith_X3_movingWith : GoodIn wsX4_movesWith wsX3_movingWith := goodIn_r _ [22, 23, 24, 25, 26, 12, 27, 14, 28, 29, 30, 35, 36, 37, 38, 39, 40] (by decide +kernel) (by decide +kernel)
set_option maxRecDepth 20000 in
theorem gX4_movesWith_X3_movingWith : GoodIn wsX4_movesWith (wsV RX4 110 RX3 yX3_movingWith wsX3_movingWith) := goodIn_app (goodIn_of _ (by decide +kernel)) ggX4_movesWith_X3_movingWith
theorem dX4_movesWith_0 : decode cX4_movesWith 0 = .ok (.aload_n 0, 1) := by decide +kernel
theorem dX4_movesWith_1 : decode cX4_movesWith 1 = .ok (.iload_n 1, 1) := by decide +kernel
theorem dX4_movesWith_2 : decode cX4_movesWith 2 = .ok (.invokevirtual 61, 3) := by decide +kernel
theorem dX4_movesWith_5 : decode cX4_movesWith 5 = .ok (.aload_n 0, 1) := by decide +kernel
theorem dX4_movesWith_6 : decode cX4_movesWith 6 = .ok (.iload_n 2, 1) := by decide +kernel
theorem dX4_movesWith_7 : decode cX4_movesWith 7 = .ok (.invokevirtual 76, 3) := by decide +kernel
theorem dX4_movesWith_10 : decode cX4_movesWith 10 = .ok (.aload_n 0, 1) := by decide +kernel
theorem dX4_movesWith_11 : decode cX4_movesWith 11 = .ok (.getfield 12, 3) := by decide +kernel
theorem dX4_movesWith_14 : decode cX4_movesWith 14 = .ok (.iload_n 1, 1) := by decide +kernel
theorem dX4_movesWith_15 : decode cX4_movesWith 15 = .ok (.iload_n 2, 1) := by decide +kernel
theorem dX4_movesWith_16 : decode cX4_movesWith 16 = .ok (.invokevirtual 110, 3) := by decide +kernel
theorem dX4_movesWith_19 : decode cX4_movesWith 19 = .ok (.ireturn, 1) := by decide +kernel
set_option maxRecDepth 20000 in
theorem ggX4_boundTo_X4_needPart : GoodIn wsX4_boundTo wsX4_needPart := goodIn_ca (goodIn_r _ [6, 7, 8, 1, 9, 10, 11, 12, 13, 14, 38, 39, 40, 41, 42, 43, 44, 45, 46, 47] (by decide +kernel) (by decide +kernel)) (goodIn_sub (fun _ h => List.mem_cons_of_mem _ (List.mem_append_right _ h)) (by decide +kernel))
set_option maxRecDepth 20000 in
theorem gX4_boundTo_X4_needPart : GoodIn wsX4_boundTo (wsV RX4 61 RX4 yX4_needPart wsX4_needPart) := goodIn_app (goodIn_of _ (by decide +kernel)) ggX4_boundTo_X4_needPart
set_option maxRecDepth 20000 in
theorem ggX4_boundTo_X4_needDirection : GoodIn wsX4_boundTo wsX4_needDirection := goodIn_ca (goodIn_r _ [18, 7, 8] (by decide +kernel) (by decide +kernel)) (goodIn_sub (fun _ h => List.mem_cons_of_mem _ (List.mem_append_right _ h)) (by decide +kernel))
set_option maxRecDepth 20000 in
theorem gX4_boundTo_X4_needDirection : GoodIn wsX4_boundTo (wsV RX4 76 RX4 yX4_needDirection wsX4_needDirection) := goodIn_app (goodIn_of _ (by decide +kernel)) ggX4_boundTo_X4_needDirection
set_option maxRecDepth 20000 in
theorem ggX4_boundTo_X3_boundWith : GoodIn wsX4_boundTo wsX3_boundWith := goodIn_r _ [22, 23, 24, 25, 12, 26, 27, 28, 29, 30, 31, 14, 32, 33, 34, 35, 36, 37, 42, 43, 44, 45, 46, 47] (by decide +kernel) (by decide +kernel)
set_option maxRecDepth 20000 in
theorem gX4_boundTo_X3_boundWith : GoodIn wsX4_boundTo (wsV RX4 113 RX3 yX3_boundWith wsX3_boundWith) := goodIn_app (goodIn_of _ (by decide +kernel)) ggX4_boundTo_X3_boundWith
theorem dX4_boundTo_0 : decode cX4_boundTo 0 = .ok (.aload_n 0, 1) := by decide +kernel
theorem dX4_boundTo_1 : decode cX4_boundTo 1 = .ok (.iload_n 1, 1) := by decide +kernel
theorem dX4_boundTo_2 : decode cX4_boundTo 2 = .ok (.invokevirtual 61, 3) := by decide +kernel
theorem dX4_boundTo_5 : decode cX4_boundTo 5 = .ok (.aload_n 0, 1) := by decide +kernel
theorem dX4_boundTo_6 : decode cX4_boundTo 6 = .ok (.iload_n 2, 1) := by decide +kernel
theorem dX4_boundTo_7 : decode cX4_boundTo 7 = .ok (.invokevirtual 76, 3) := by decide +kernel
theorem dX4_boundTo_10 : decode cX4_boundTo 10 = .ok (.aload_n 0, 1) := by decide +kernel
theorem dX4_boundTo_11 : decode cX4_boundTo 11 = .ok (.getfield 12, 3) := by decide +kernel
theorem dX4_boundTo_14 : decode cX4_boundTo 14 = .ok (.iload_n 1, 1) := by decide +kernel
theorem dX4_boundTo_15 : decode cX4_boundTo 15 = .ok (.iload_n 2, 1) := by decide +kernel
theorem dX4_boundTo_16 : decode cX4_boundTo 16 = .ok (.invokevirtual 113, 3) := by decide +kernel
theorem dX4_boundTo_19 : decode cX4_boundTo 19 = .ok (.ireturn, 1) := by decide +kernel
set_option maxRecDepth 20000 in
theorem ggX4_groups_X4_needDirection : GoodIn wsX4_groups wsX4_needDirection := goodIn_ca (goodIn_r _ [6, 7, 8] (by decide +kernel) (by decide +kernel)) (goodIn_sub (fun _ h => List.mem_cons_of_mem _ (List.mem_append_right _ h)) (by decide +kernel))
set_option maxRecDepth 20000 in
theorem gX4_groups_X4_needDirection : GoodIn wsX4_groups (wsV RX4 76 RX4 yX4_needDirection wsX4_needDirection) := goodIn_app (goodIn_of _ (by decide +kernel)) ggX4_groups_X4_needDirection
set_option maxRecDepth 20000 in
theorem ggX4_groups_X3_boundGroups : GoodIn wsX4_groups wsX3_boundGroups := goodIn_r _ [13, 14, 15, 16, 17, 12, 18, 19, 20, 21, 22, 23, 24, 25, 26, 27, 28, 29, 30, 31, 32, 33, 38, 39, 40, 41, 42, 43] (by decide +kernel) (by decide +kernel)
set_option maxRecDepth 20000 in
theorem gX4_groups_X3_boundGroups : GoodIn wsX4_groups (wsV RX4 116 RX3 yX3_boundGroups wsX3_boundGroups) := goodIn_app (goodIn_of _ (by decide +kernel)) ggX4_groups_X3_boundGroups
theorem dX4_groups_0 : decode cX4_groups 0 = .ok (.aload_n 0, 1) := by decide +kernel
theorem dX4_groups_1 : decode cX4_groups 1 = .ok (.iload_n 1, 1) := by decide +kernel
theorem dX4_groups_2 : decode cX4_groups 2 = .ok (.invokevirtual 76, 3) := by decide +kernel
theorem dX4_groups_5 : decode cX4_groups 5 = .ok (.aload_n 0, 1) := by decide +kernel
theorem dX4_groups_6 : decode cX4_groups 6 = .ok (.getfield 12, 3) := by decide +kernel
theorem dX4_groups_9 : decode cX4_groups 9 = .ok (.iload_n 1, 1) := by decide +kernel
theorem dX4_groups_10 : decode cX4_groups 10 = .ok (.invokevirtual 116, 3) := by decide +kernel
theorem dX4_groups_13 : decode cX4_groups 13 = .ok (.ireturn, 1) := by decide +kernel
set_option maxRecDepth 20000 in
theorem ggX4_splits_X4_needSet : GoodIn wsX4_splits wsX4_needSet := goodIn_ca (goodIn_r _ [6, 7, 8, 9, 10, 11, 12, 13, 14, 15, 68, 69, 70, 71, 72, 73, 74, 75, 76, 77] (by decide +kernel) (by decide +kernel)) (goodIn_sub (fun _ h => List.mem_cons_of_mem _ (List.mem_append_right _ h)) (by decide +kernel))
set_option maxRecDepth 20000 in
theorem gX4_splits_X4_needSet : GoodIn wsX4_splits (wsV RX4 90 RX4 yX4_needSet wsX4_needSet) := goodIn_app (goodIn_of _ (by decide +kernel)) ggX4_splits_X4_needSet
set_option maxRecDepth 20000 in
theorem ggX4_splits_X2_splitsOf : GoodIn wsX4_splits wsX2_splitsOf := goodIn_r _ [20, 21, 22, 23, 24, 19, 25, 26, 27, 28, 29, 11, 12, 13, 14, 15, 30, 31, 32, 33, 34, 35, 36, 37, 38, 39, 40, 41, 42, 43, 44, 45, 46, 47, 48, 49, 50, 51, 52, 53, 54, 55, 56, 57, 58, 59, 60, 61, 62, 63, 64, 65, 66, 67, 78, 79, 80, 81, 82, 83, 72, 73, 74, 75, 76, 77] (by decide +kernel) (by decide +kernel)
set_option maxRecDepth 20000 in
theorem gX4_splits_X2_splitsOf : GoodIn wsX4_splits (wsV RX4 119 RX2 yX2_splitsOf wsX2_splitsOf) := goodIn_app (goodIn_of _ (by decide +kernel)) ggX4_splits_X2_splitsOf
theorem dX4_splits_0 : decode cX4_splits 0 = .ok (.aload_n 0, 1) := by decide +kernel
theorem dX4_splits_1 : decode cX4_splits 1 = .ok (.iload_n 1, 1) := by decide +kernel
theorem dX4_splits_2 : decode cX4_splits 2 = .ok (.invokevirtual 90, 3) := by decide +kernel
theorem dX4_splits_5 : decode cX4_splits 5 = .ok (.aload_n 0, 1) := by decide +kernel
theorem dX4_splits_6 : decode cX4_splits 6 = .ok (.getfield 21, 3) := by decide +kernel
theorem dX4_splits_9 : decode cX4_splits 9 = .ok (.iload_n 1, 1) := by decide +kernel
theorem dX4_splits_10 : decode cX4_splits 10 = .ok (.invokevirtual 119, 3) := by decide +kernel
theorem dX4_splits_13 : decode cX4_splits 13 = .ok (.ireturn, 1) := by decide +kernel
set_option maxRecDepth 20000 in
theorem ggX4_ways_X4_needParts : GoodIn wsX4_ways wsX4_needParts := goodIn_ca (goodIn_r _ [7, 8, 9, 2, 10, 11, 12, 13, 14, 15, 72, 73, 74, 75, 76, 77, 78, 79, 80, 81] (by decide +kernel) (by decide +kernel)) (goodIn_sub (fun _ h => List.mem_cons_of_mem _ (List.mem_append_right _ h)) (by decide +kernel))
set_option maxRecDepth 20000 in
theorem gX4_ways_X4_needParts : GoodIn wsX4_ways (wsV RX4 122 RX4 yX4_needParts wsX4_needParts) := goodIn_app (goodIn_of _ (by decide +kernel)) ggX4_ways_X4_needParts
set_option maxRecDepth 20000 in
theorem ggX4_ways_X3_all : GoodIn wsX4_ways wsX3_all := goodIn_r _ [19, 15, 76, 77, 78, 79, 80, 81] (by decide +kernel) (by decide +kernel)
set_option maxRecDepth 20000 in
theorem gX4_ways_X3_all : GoodIn wsX4_ways (wsV RX4 125 RX3 yX3_all wsX3_all) := goodIn_app (goodIn_of _ (by decide +kernel)) ggX4_ways_X3_all
set_option maxRecDepth 20000 in
theorem ggX4_ways_X2_waysOf : GoodIn wsX4_ways wsX2_waysOf := goodIn_r _ [24, 25, 26, 27, 28, 23, 29, 30, 31, 32, 33, 17, 18, 13, 19, 15, 34, 35, 36, 37, 38, 39, 40, 41, 42, 43, 44, 45, 46, 47, 48, 49, 50, 51, 52, 53, 54, 55, 56, 57, 58, 59, 60, 61, 62, 63, 64, 65, 66, 67, 68, 69, 70, 71, 82, 83, 84, 85, 86, 87, 76, 77, 78, 79, 80, 81] (by decide +kernel) (by decide +kernel)
set_option maxRecDepth 20000 in
theorem gX4_ways_X2_waysOf : GoodIn wsX4_ways (wsV RX4 128 RX2 yX2_waysOf wsX2_waysOf) := goodIn_app (goodIn_of _ (by decide +kernel)) ggX4_ways_X2_waysOf
theorem dX4_ways_0 : decode cX4_ways 0 = .ok (.aload_n 0, 1) := by decide +kernel
theorem dX4_ways_1 : decode cX4_ways 1 = .ok (.invokevirtual 122, 3) := by decide +kernel
theorem dX4_ways_4 : decode cX4_ways 4 = .ok (.aload_n 0, 1) := by decide +kernel
theorem dX4_ways_5 : decode cX4_ways 5 = .ok (.getfield 21, 3) := by decide +kernel
theorem dX4_ways_8 : decode cX4_ways 8 = .ok (.aload_n 0, 1) := by decide +kernel
theorem dX4_ways_9 : decode cX4_ways 9 = .ok (.getfield 12, 3) := by decide +kernel
theorem dX4_ways_12 : decode cX4_ways 12 = .ok (.invokevirtual 125, 3) := by decide +kernel
theorem dX4_ways_15 : decode cX4_ways 15 = .ok (.invokevirtual 128, 3) := by decide +kernel
theorem dX4_ways_18 : decode cX4_ways 18 = .ok (.ireturn, 1) := by decide +kernel
set_option maxRecDepth 20000 in
theorem ggX4_leastDepth_X4_needParts : GoodIn wsX4_leastDepth wsX4_needParts := goodIn_ca (goodIn_r _ [7, 8, 9, 2, 10, 11, 12, 13, 14, 15, 72, 73, 74, 75, 76, 77, 78, 79, 80, 81] (by decide +kernel) (by decide +kernel)) (goodIn_sub (fun _ h => List.mem_cons_of_mem _ (List.mem_append_right _ h)) (by decide +kernel))
set_option maxRecDepth 20000 in
theorem gX4_leastDepth_X4_needParts : GoodIn wsX4_leastDepth (wsV RX4 122 RX4 yX4_needParts wsX4_needParts) := goodIn_app (goodIn_of _ (by decide +kernel)) ggX4_leastDepth_X4_needParts
set_option maxRecDepth 20000 in
theorem ggX4_leastDepth_X3_all : GoodIn wsX4_leastDepth wsX3_all := goodIn_r _ [19, 15, 76, 77, 78, 79, 80, 81] (by decide +kernel) (by decide +kernel)
set_option maxRecDepth 20000 in
theorem gX4_leastDepth_X3_all : GoodIn wsX4_leastDepth (wsV RX4 125 RX3 yX3_all wsX3_all) := goodIn_app (goodIn_of _ (by decide +kernel)) ggX4_leastDepth_X3_all
set_option maxRecDepth 20000 in
theorem ggX4_leastDepth_X2_leastDepthOf : GoodIn wsX4_leastDepth wsX2_leastDepthOf := goodIn_r _ [24, 25, 26, 27, 28, 23, 29, 30, 31, 32, 33, 17, 18, 13, 19, 15, 34, 35, 36, 37, 38, 39, 40, 41, 42, 43, 44, 45, 46, 47, 48, 49, 50, 51, 52, 53, 54, 55, 56, 57, 58, 59, 60, 61, 62, 63, 64, 65, 66, 67, 68, 69, 70, 71, 82, 83, 84, 85, 86, 87, 76, 77, 78, 79, 80, 81] (by decide +kernel) (by decide +kernel)
set_option maxRecDepth 20000 in
theorem gX4_leastDepth_X2_leastDepthOf : GoodIn wsX4_leastDepth (wsV RX4 131 RX2 yX2_leastDepthOf wsX2_leastDepthOf) := goodIn_app (goodIn_of _ (by decide +kernel)) ggX4_leastDepth_X2_leastDepthOf
theorem dX4_leastDepth_0 : decode cX4_leastDepth 0 = .ok (.aload_n 0, 1) := by decide +kernel
theorem dX4_leastDepth_1 : decode cX4_leastDepth 1 = .ok (.invokevirtual 122, 3) := by decide +kernel
theorem dX4_leastDepth_4 : decode cX4_leastDepth 4 = .ok (.aload_n 0, 1) := by decide +kernel
theorem dX4_leastDepth_5 : decode cX4_leastDepth 5 = .ok (.getfield 21, 3) := by decide +kernel
theorem dX4_leastDepth_8 : decode cX4_leastDepth 8 = .ok (.aload_n 0, 1) := by decide +kernel
theorem dX4_leastDepth_9 : decode cX4_leastDepth 9 = .ok (.getfield 12, 3) := by decide +kernel
theorem dX4_leastDepth_12 : decode cX4_leastDepth 12 = .ok (.invokevirtual 125, 3) := by decide +kernel
theorem dX4_leastDepth_15 : decode cX4_leastDepth 15 = .ok (.invokevirtual 131, 3) := by decide +kernel
theorem dX4_leastDepth_18 : decode cX4_leastDepth 18 = .ok (.ireturn, 1) := by decide +kernel
set_option maxRecDepth 20000 in
theorem ggX4_orders_X4_needParts : GoodIn wsX4_orders wsX4_needParts := goodIn_ca (goodIn_r _ [6, 7, 8, 9, 10, 11, 12, 13, 14, 15, 97, 98, 99, 100, 101, 102, 103, 104, 105, 106] (by decide +kernel) (by decide +kernel)) (goodIn_sub (fun _ h => List.mem_cons_of_mem _ (List.mem_append_right _ h)) (by decide +kernel))
set_option maxRecDepth 20000 in
theorem gX4_orders_X4_needParts : GoodIn wsX4_orders (wsV RX4 122 RX4 yX4_needParts wsX4_needParts) := goodIn_app (goodIn_of _ (by decide +kernel)) ggX4_orders_X4_needParts
set_option maxRecDepth 20000 in
theorem ggX4_orders_X1_possible : GoodIn wsX4_orders wsX1_possible := goodIn_r _ [20, 21, 22, 23, 24, 19, 25, 26, 27, 28, 29, 30, 31, 32, 33, 34, 13, 35, 15, 36, 37, 38, 39, 40, 41, 42, 43, 44, 45, 46, 47, 48, 49, 50, 51, 52, 53, 54, 55, 56, 57, 58, 59, 11, 12, 14, 60, 61, 62, 63, 64, 65, 66, 67, 68, 69, 70, 71, 72, 73, 74, 75, 76, 77, 78, 79, 80, 81, 82, 83, 84, 85, 86, 87, 88, 89, 90, 91, 92, 93, 94, 95, 96, 107, 108, 109, 110, 111, 112, 113, 114, 101, 102, 103, 104, 105, 106] (by decide +kernel) (by decide +kernel)
set_option maxRecDepth 20000 in
theorem gX4_orders_X1_possible : GoodIn wsX4_orders (wsV RX4 134 RX1 yX1_possible wsX1_possible) := goodIn_app (goodIn_of _ (by decide +kernel)) ggX4_orders_X1_possible
theorem dX4_orders_0 : decode cX4_orders 0 = .ok (.aload_n 0, 1) := by decide +kernel
theorem dX4_orders_1 : decode cX4_orders 1 = .ok (.invokevirtual 122, 3) := by decide +kernel
theorem dX4_orders_4 : decode cX4_orders 4 = .ok (.aload_n 0, 1) := by decide +kernel
theorem dX4_orders_5 : decode cX4_orders 5 = .ok (.getfield 28, 3) := by decide +kernel
theorem dX4_orders_8 : decode cX4_orders 8 = .ok (.invokevirtual 134, 3) := by decide +kernel
theorem dX4_orders_11 : decode cX4_orders 11 = .ok (.ireturn, 1) := by decide +kernel
set_option maxRecDepth 20000 in
theorem ggX4_fewestChanges_X4_needParts : GoodIn wsX4_fewestChanges wsX4_needParts := goodIn_ca (goodIn_r _ [6, 7, 8, 9, 10, 11, 12, 13, 14, 15, 100, 101, 102, 103, 104, 105, 106, 107, 108, 109] (by decide +kernel) (by decide +kernel)) (goodIn_sub (fun _ h => List.mem_cons_of_mem _ (List.mem_append_right _ h)) (by decide +kernel))
set_option maxRecDepth 20000 in
theorem gX4_fewestChanges_X4_needParts : GoodIn wsX4_fewestChanges (wsV RX4 122 RX4 yX4_needParts wsX4_needParts) := goodIn_app (goodIn_of _ (by decide +kernel)) ggX4_fewestChanges_X4_needParts
set_option maxRecDepth 20000 in
theorem ggX4_fewestChanges_X1_fewestBySets : GoodIn wsX4_fewestChanges wsX1_fewestBySets := goodIn_r _ [20, 21, 22, 23, 24, 19, 25, 26, 27, 28, 29, 30, 31, 32, 33, 34, 13, 35, 15, 36, 37, 38, 39, 40, 41, 42, 43, 44, 45, 46, 47, 48, 49, 50, 51, 52, 53, 54, 55, 56, 57, 58, 59, 11, 12, 14, 60, 61, 62, 63, 64, 65, 66, 67, 68, 69, 70, 71, 72, 73, 74, 75, 76, 77, 78, 79, 80, 81, 82, 83, 84, 85, 86, 87, 88, 89, 90, 91, 92, 93, 94, 95, 96, 97, 98, 99, 110, 111, 112, 113, 114, 115, 116, 117, 104, 105, 106, 107, 108, 109] (by decide +kernel) (by decide +kernel)
set_option maxRecDepth 20000 in
theorem gX4_fewestChanges_X1_fewestBySets : GoodIn wsX4_fewestChanges (wsV RX4 137 RX1 yX1_fewestBySets wsX1_fewestBySets) := goodIn_app (goodIn_of _ (by decide +kernel)) ggX4_fewestChanges_X1_fewestBySets
theorem dX4_fewestChanges_0 : decode cX4_fewestChanges 0 = .ok (.aload_n 0, 1) := by decide +kernel
theorem dX4_fewestChanges_1 : decode cX4_fewestChanges 1 = .ok (.invokevirtual 122, 3) := by decide +kernel
theorem dX4_fewestChanges_4 : decode cX4_fewestChanges 4 = .ok (.aload_n 0, 1) := by decide +kernel
theorem dX4_fewestChanges_5 : decode cX4_fewestChanges 5 = .ok (.getfield 28, 3) := by decide +kernel
theorem dX4_fewestChanges_8 : decode cX4_fewestChanges 8 = .ok (.invokevirtual 137, 3) := by decide +kernel
theorem dX4_fewestChanges_11 : decode cX4_fewestChanges 11 = .ok (.ireturn, 1) := by decide +kernel
set_option maxRecDepth 20000 in
theorem ggX4_fewestByListing_X4_needParts : GoodIn wsX4_fewestByListing wsX4_needParts := goodIn_ca (goodIn_r _ [9, 1, 2, 3, 10, 11, 12, 13, 14, 15, 103, 104, 105, 106, 107, 108, 109, 110, 111, 112] (by decide +kernel) (by decide +kernel)) (goodIn_sub (fun _ h => List.mem_cons_of_mem _ (List.mem_append_right _ h)) (by decide +kernel))
set_option maxRecDepth 20000 in
theorem gX4_fewestByListing_X4_needParts : GoodIn wsX4_fewestByListing (wsV RX4 122 RX4 yX4_needParts wsX4_needParts) := goodIn_app (goodIn_of _ (by decide +kernel)) ggX4_fewestByListing_X4_needParts
set_option maxRecDepth 20000 in
theorem ggX4_fewestByListing_X3_count : GoodIn wsX4_fewestByListing wsX3_count := goodIn_r _ [14, 15, 107, 108, 109, 110, 111, 112] (by decide +kernel) (by decide +kernel)
set_option maxRecDepth 20000 in
theorem gX4_fewestByListing_X3_count : GoodIn wsX4_fewestByListing (wsV RX4 43 RX3 yX3_count wsX3_count) := goodIn_app (goodIn_of _ (by decide +kernel)) ggX4_fewestByListing_X3_count
set_option maxRecDepth 20000 in
theorem ggX4_fewestByListing_X1_fewestListed : GoodIn wsX4_fewestByListing wsX1_fewestListed := goodIn_r _ [20, 21, 22, 23, 19, 24, 25, 26, 27, 28, 29, 30, 31, 32, 33, 34, 13, 35, 15, 36, 37, 38, 39, 40, 41, 42, 43, 44, 45, 46, 47, 48, 49, 50, 51, 52, 53, 54, 55, 56, 57, 58, 59, 11, 12, 14, 60, 61, 62, 63, 64, 65, 66, 67, 68, 69, 70, 71, 72, 73, 74, 75, 76, 77, 78, 79, 80, 81, 82, 83, 84, 85, 86, 87, 88, 89, 90, 91, 92, 93, 94, 95, 96, 97, 98, 99, 100, 101, 102, 113, 114, 115, 116, 117, 118, 119, 120, 107, 108, 109, 110, 111, 112] (by decide +kernel) (by decide +kernel)
set_option maxRecDepth 20000 in
theorem gX4_fewestByListing_X1_fewestListed : GoodIn wsX4_fewestByListing (wsV RX4 142 RX1 yX1_fewestListed wsX1_fewestListed) := goodIn_app (goodIn_of _ (by decide +kernel)) ggX4_fewestByListing_X1_fewestListed
theorem dX4_fewestByListing_0 : decode cX4_fewestByListing 0 = .ok (.aload_n 0, 1) := by decide +kernel
theorem dX4_fewestByListing_1 : decode cX4_fewestByListing 1 = .ok (.invokevirtual 122, 3) := by decide +kernel
theorem dX4_fewestByListing_4 : decode cX4_fewestByListing 4 = .ok (.aload_n 0, 1) := by decide +kernel
theorem dX4_fewestByListing_5 : decode cX4_fewestByListing 5 = .ok (.getfield 12, 3) := by decide +kernel
theorem dX4_fewestByListing_8 : decode cX4_fewestByListing 8 = .ok (.invokevirtual 43, 3) := by decide +kernel
theorem dX4_fewestByListing_11 : decode cX4_fewestByListing 11 = .ok (.bipush 7, 2) := by decide +kernel
theorem dX4_fewestByListing_13 : decode cX4_fewestByListing 13 = .ok (.if_icmp .le 13, 3) := by decide +kernel
theorem dX4_fewestByListing_16 : decode cX4_fewestByListing 16 = .ok (.new 47, 3) := by decide +kernel
theorem dX4_fewestByListing_19 : decode cX4_fewestByListing 19 = .ok (.dup, 1) := by decide +kernel
theorem dX4_fewestByListing_20 : decode cX4_fewestByListing 20 = .ok (.ldc 140, 2) := by decide +kernel
theorem dX4_fewestByListing_22 : decode cX4_fewestByListing 22 = .ok (.invokespecial 51, 3) := by decide +kernel
theorem dX4_fewestByListing_25 : decode cX4_fewestByListing 25 = .ok (.athrow, 1) := by decide +kernel
theorem dX4_fewestByListing_26 : decode cX4_fewestByListing 26 = .ok (.aload_n 0, 1) := by decide +kernel
theorem dX4_fewestByListing_27 : decode cX4_fewestByListing 27 = .ok (.getfield 28, 3) := by decide +kernel
theorem dX4_fewestByListing_30 : decode cX4_fewestByListing 30 = .ok (.invokevirtual 142, 3) := by decide +kernel
theorem dX4_fewestByListing_33 : decode cX4_fewestByListing 33 = .ok (.ireturn, 1) := by decide +kernel
set_option maxRecDepth 20000 in
theorem ggX4_orderAt_X1_bestAt : GoodIn wsX4_orderAt wsX1_bestAt := goodIn_r _ [8, 9, 10, 11, 12, 13, 14, 15, 16, 17, 18, 19, 20, 7, 21, 22, 23, 24, 25, 26, 27, 28, 29, 30, 31, 32, 33, 34, 35, 36, 37, 38, 39, 40, 41, 42, 43, 44, 45, 46, 47, 48, 49, 50, 51, 52, 53, 54, 55, 56, 57, 58, 59, 60, 61, 62, 63, 64, 65, 66, 67, 68, 69, 70, 71, 72, 73, 74, 75, 76, 77, 78, 79, 80, 81, 82, 83, 84, 85, 86, 87, 88, 89, 94, 95, 96, 97, 98, 99, 100, 101, 102, 103, 104, 105, 106, 107] (by decide +kernel) (by decide +kernel)
set_option maxRecDepth 20000 in
theorem gX4_orderAt_X1_bestAt : GoodIn wsX4_orderAt (wsV RX4 145 RX1 yX1_bestAt wsX1_bestAt) := goodIn_app (goodIn_of _ (by decide +kernel)) ggX4_orderAt_X1_bestAt
theorem dX4_orderAt_0 : decode cX4_orderAt 0 = .ok (.aload_n 0, 1) := by decide +kernel
theorem dX4_orderAt_1 : decode cX4_orderAt 1 = .ok (.getfield 28, 3) := by decide +kernel
theorem dX4_orderAt_4 : decode cX4_orderAt 4 = .ok (.iload_n 1, 1) := by decide +kernel
theorem dX4_orderAt_5 : decode cX4_orderAt 5 = .ok (.invokevirtual 145, 3) := by decide +kernel
theorem dX4_orderAt_8 : decode cX4_orderAt 8 = .ok (.istore_n 2, 1) := by decide +kernel
theorem dX4_orderAt_9 : decode cX4_orderAt 9 = .ok (.iload_n 2, 1) := by decide +kernel
theorem dX4_orderAt_10 : decode cX4_orderAt 10 = .ok (.iconst (-1), 1) := by decide +kernel
theorem dX4_orderAt_11 : decode cX4_orderAt 11 = .ok (.if_icmp .ne 13, 3) := by decide +kernel
theorem dX4_orderAt_14 : decode cX4_orderAt 14 = .ok (.new 148, 3) := by decide +kernel
theorem dX4_orderAt_17 : decode cX4_orderAt 17 = .ok (.dup, 1) := by decide +kernel
theorem dX4_orderAt_18 : decode cX4_orderAt 18 = .ok (.ldc 150, 2) := by decide +kernel
theorem dX4_orderAt_20 : decode cX4_orderAt 20 = .ok (.invokespecial 152, 3) := by decide +kernel
theorem dX4_orderAt_23 : decode cX4_orderAt 23 = .ok (.athrow, 1) := by decide +kernel
theorem dX4_orderAt_24 : decode cX4_orderAt 24 = .ok (.iload_n 2, 1) := by decide +kernel
theorem dX4_orderAt_25 : decode cX4_orderAt 25 = .ok (.ireturn, 1) := by decide +kernel
set_option maxRecDepth 20000 in
theorem ggX4_setJams_X4_needPart : GoodIn wsX4_setJams wsX4_needPart := goodIn_ca (goodIn_r _ [8, 9, 10, 11, 12, 13, 14, 15, 16, 17, 24, 25, 26, 27, 28, 29, 30, 31, 32, 33] (by decide +kernel) (by decide +kernel)) (goodIn_sub (fun _ h => List.mem_cons_of_mem _ (List.mem_append_right _ h)) (by decide +kernel))
set_option maxRecDepth 20000 in
theorem gX4_setJams_X4_needPart : GoodIn wsX4_setJams (wsV RX4 61 RX4 yX4_needPart wsX4_needPart) := goodIn_app (goodIn_of _ (by decide +kernel)) ggX4_setJams_X4_needPart
set_option maxRecDepth 20000 in
theorem ggX4_setJams_X0_changeJams : GoodIn wsX4_setJams wsX0_changeJams := goodIn_r _ [22, 23, 34, 35, 36, 37, 38, 39, 40, 41] (by decide +kernel) (by decide +kernel)
set_option maxRecDepth 20000 in
theorem gX4_setJams_X0_changeJams : GoodIn wsX4_setJams (wsV RX4 158 RX0 yX0_changeJams wsX0_changeJams) := goodIn_app (goodIn_of _ (by decide +kernel)) ggX4_setJams_X0_changeJams
theorem dX4_setJams_0 : decode cX4_setJams 0 = .ok (.aload_n 0, 1) := by decide +kernel
theorem dX4_setJams_1 : decode cX4_setJams 1 = .ok (.iload_n 1, 1) := by decide +kernel
theorem dX4_setJams_2 : decode cX4_setJams 2 = .ok (.invokevirtual 61, 3) := by decide +kernel
theorem dX4_setJams_5 : decode cX4_setJams 5 = .ok (.iload_n 2, 1) := by decide +kernel
theorem dX4_setJams_6 : decode cX4_setJams 6 = .ok (.ifCond .lt 8, 3) := by decide +kernel
theorem dX4_setJams_9 : decode cX4_setJams 9 = .ok (.iload_n 2, 1) := by decide +kernel
theorem dX4_setJams_10 : decode cX4_setJams 10 = .ok (.iconst 5, 1) := by decide +kernel
theorem dX4_setJams_11 : decode cX4_setJams 11 = .ok (.if_icmp .le 13, 3) := by decide +kernel
theorem dX4_setJams_14 : decode cX4_setJams 14 = .ok (.new 153, 3) := by decide +kernel
theorem dX4_setJams_17 : decode cX4_setJams 17 = .ok (.dup, 1) := by decide +kernel
theorem dX4_setJams_18 : decode cX4_setJams 18 = .ok (.ldc 155, 2) := by decide +kernel
theorem dX4_setJams_20 : decode cX4_setJams 20 = .ok (.invokespecial 157, 3) := by decide +kernel
theorem dX4_setJams_23 : decode cX4_setJams 23 = .ok (.athrow, 1) := by decide +kernel
theorem dX4_setJams_24 : decode cX4_setJams 24 = .ok (.aload_n 0, 1) := by decide +kernel
theorem dX4_setJams_25 : decode cX4_setJams 25 = .ok (.getfield 35, 3) := by decide +kernel
theorem dX4_setJams_28 : decode cX4_setJams 28 = .ok (.iload_n 1, 1) := by decide +kernel
theorem dX4_setJams_29 : decode cX4_setJams 29 = .ok (.iload_n 2, 1) := by decide +kernel
theorem dX4_setJams_30 : decode cX4_setJams 30 = .ok (.invokevirtual 158, 3) := by decide +kernel
theorem dX4_setJams_33 : decode cX4_setJams 33 = .ok (.ireturn, 1) := by decide +kernel
set_option maxRecDepth 20000 in
theorem ggX4_begin_X4_needParts : GoodIn wsX4_begin wsX4_needParts := goodIn_ca (goodIn_r _ [10, 1, 2, 5, 11, 12, 13, 14, 15, 16, 116, 117, 118, 119, 120, 121, 122, 123, 124, 125] (by decide +kernel) (by decide +kernel)) (goodIn_sub (fun _ h => List.mem_cons_of_mem _ (List.mem_append_right _ h)) (by decide +kernel))
set_option maxRecDepth 20000 in
theorem gX4_begin_X4_needParts : GoodIn wsX4_begin (wsV RX4 122 RX4 yX4_needParts wsX4_needParts) := goodIn_app (goodIn_of _ (by decide +kernel)) ggX4_begin_X4_needParts
set_option maxRecDepth 20000 in
theorem ggX4_begin_X1_fewestBySets : GoodIn wsX4_begin wsX1_fewestBySets := goodIn_r _ [21, 22, 23, 24, 25, 20, 26, 27, 28, 29, 30, 31, 32, 33, 34, 35, 14, 36, 16, 37, 38, 39, 40, 41, 42, 43, 44, 45, 46, 47, 48, 49, 50, 51, 52, 53, 54, 55, 56, 57, 58, 59, 60, 12, 13, 15, 61, 62, 63, 64, 65, 66, 67, 68, 69, 70, 71, 72, 73, 74, 75, 76, 77, 78, 79, 80, 81, 82, 83, 84, 85, 86, 87, 88, 89, 90, 91, 92, 93, 94, 95, 96, 97, 98, 99, 100, 126, 127, 128, 129, 130, 131, 132, 133, 120, 121, 122, 123, 124, 125] (by decide +kernel) (by decide +kernel)
set_option maxRecDepth 20000 in
theorem gX4_begin_X1_fewestBySets : GoodIn wsX4_begin (wsV RX4 137 RX1 yX1_fewestBySets wsX1_fewestBySets) := goodIn_app (goodIn_of _ (by decide +kernel)) ggX4_begin_X1_fewestBySets
set_option maxRecDepth 20000 in
theorem ggX4_begin_X0_start : GoodIn wsX4_begin wsX0_start := goodIn_r _ [105, 106, 107, 108, 109, 104, 110, 111, 112, 113, 114, 115, 134, 135, 136, 137, 138, 139, 140, 141] (by decide +kernel) (by decide +kernel)
set_option maxRecDepth 20000 in
theorem gX4_begin_X0_start : GoodIn wsX4_begin (wsV RX4 163 RX0 yX0_start wsX0_start) := goodIn_app (goodIn_of _ (by decide +kernel)) ggX4_begin_X0_start
set_option maxRecDepth 20000 in
theorem ggX4_begin_X3_count : GoodIn wsX4_begin wsX3_count := goodIn_r _ [15, 16, 120, 121, 122, 123, 124, 125] (by decide +kernel) (by decide +kernel)
set_option maxRecDepth 20000 in
theorem gX4_begin_X3_count : GoodIn wsX4_begin (wsV RX4 43 RX3 yX3_count wsX3_count) := goodIn_app (goodIn_of _ (by decide +kernel)) ggX4_begin_X3_count
theorem dX4_begin_0 : decode cX4_begin 0 = .ok (.aload_n 0, 1) := by decide +kernel
theorem dX4_begin_1 : decode cX4_begin 1 = .ok (.invokevirtual 122, 3) := by decide +kernel
theorem dX4_begin_4 : decode cX4_begin 4 = .ok (.aload_n 0, 1) := by decide +kernel
theorem dX4_begin_5 : decode cX4_begin 5 = .ok (.getfield 28, 3) := by decide +kernel
theorem dX4_begin_8 : decode cX4_begin 8 = .ok (.invokevirtual 137, 3) := by decide +kernel
theorem dX4_begin_11 : decode cX4_begin 11 = .ok (.iconst (-1), 1) := by decide +kernel
theorem dX4_begin_12 : decode cX4_begin 12 = .ok (.if_icmp .ne 13, 3) := by decide +kernel
theorem dX4_begin_15 : decode cX4_begin 15 = .ok (.new 47, 3) := by decide +kernel
theorem dX4_begin_18 : decode cX4_begin 18 = .ok (.dup, 1) := by decide +kernel
theorem dX4_begin_19 : decode cX4_begin 19 = .ok (.ldc 161, 2) := by decide +kernel
theorem dX4_begin_21 : decode cX4_begin 21 = .ok (.invokespecial 51, 3) := by decide +kernel
theorem dX4_begin_24 : decode cX4_begin 24 = .ok (.athrow, 1) := by decide +kernel
theorem dX4_begin_25 : decode cX4_begin 25 = .ok (.aload_n 0, 1) := by decide +kernel
theorem dX4_begin_26 : decode cX4_begin 26 = .ok (.getfield 35, 3) := by decide +kernel
theorem dX4_begin_29 : decode cX4_begin 29 = .ok (.invokevirtual 163, 3) := by decide +kernel
theorem dX4_begin_32 : decode cX4_begin 32 = .ok (.aload_n 0, 1) := by decide +kernel
theorem dX4_begin_33 : decode cX4_begin 33 = .ok (.getfield 12, 3) := by decide +kernel
theorem dX4_begin_36 : decode cX4_begin 36 = .ok (.invokevirtual 43, 3) := by decide +kernel
theorem dX4_begin_39 : decode cX4_begin 39 = .ok (.ireturn, 1) := by decide +kernel
set_option maxRecDepth 20000 in
theorem ggX4_step_X0_nextPlace : GoodIn wsX4_step wsX0_nextPlace := goodIn_r _ [9, 10, 11, 130, 131, 132, 133, 134, 135, 136, 137] (by decide +kernel) (by decide +kernel)
set_option maxRecDepth 20000 in
theorem gX4_step_X0_nextPlace : GoodIn wsX4_step (wsV RX4 166 RX0 yX0_nextPlace wsX0_nextPlace) := goodIn_app (goodIn_of _ (by decide +kernel)) ggX4_step_X0_nextPlace
set_option maxRecDepth 20000 in
theorem ggX4_step_X1_bestAt : GoodIn wsX4_step wsX1_bestAt := goodIn_r _ [16, 17, 18, 19, 20, 21, 22, 23, 24, 25, 26, 27, 28, 15, 29, 30, 31, 32, 33, 34, 35, 36, 37, 38, 39, 40, 41, 42, 43, 44, 45, 46, 47, 48, 49, 50, 51, 52, 53, 54, 55, 56, 57, 58, 59, 60, 61, 62, 63, 64, 65, 66, 67, 68, 69, 70, 71, 72, 73, 74, 75, 76, 77, 78, 79, 80, 81, 82, 83, 84, 85, 86, 87, 88, 89, 90, 91, 92, 93, 94, 95, 96, 97, 138, 139, 140, 141, 142, 143, 144, 145, 146, 147, 148, 149, 150, 151] (by decide +kernel) (by decide +kernel)
set_option maxRecDepth 20000 in
theorem gX4_step_X1_bestAt : GoodIn wsX4_step (wsV RX4 145 RX1 yX1_bestAt wsX1_bestAt) := goodIn_app (goodIn_of _ (by decide +kernel)) ggX4_step_X1_bestAt
set_option maxRecDepth 20000 in
theorem ggX4_step_X0_tryToPutIn : GoodIn wsX4_step wsX0_tryToPutIn := goodIn_r _ [101, 102, 103, 104, 105, 83, 84, 23, 85, 86, 106, 107, 108, 8, 109, 110, 111, 112, 113, 114, 115, 116, 117, 118, 119, 120, 121, 122, 123, 124, 11, 125, 63, 64, 65, 56, 130, 131, 132, 133, 134, 135, 136, 137, 146, 147, 148, 149, 150, 151] (by decide +kernel) (by decide +kernel)
set_option maxRecDepth 20000 in
theorem gX4_step_X0_tryToPutIn : GoodIn wsX4_step (wsV RX4 171 RX0 yX0_tryToPutIn wsX0_tryToPutIn) := goodIn_app (goodIn_of _ (by decide +kernel)) ggX4_step_X0_tryToPutIn
theorem dX4_step_0 : decode cX4_step 0 = .ok (.aload_n 0, 1) := by decide +kernel
theorem dX4_step_1 : decode cX4_step 1 = .ok (.getfield 28, 3) := by decide +kernel
theorem dX4_step_4 : decode cX4_step 4 = .ok (.aload_n 0, 1) := by decide +kernel
theorem dX4_step_5 : decode cX4_step 5 = .ok (.getfield 35, 3) := by decide +kernel
theorem dX4_step_8 : decode cX4_step 8 = .ok (.invokevirtual 166, 3) := by decide +kernel
theorem dX4_step_11 : decode cX4_step 11 = .ok (.invokevirtual 145, 3) := by decide +kernel
theorem dX4_step_14 : decode cX4_step 14 = .ok (.istore_n 1, 1) := by decide +kernel
theorem dX4_step_15 : decode cX4_step 15 = .ok (.iload_n 1, 1) := by decide +kernel
theorem dX4_step_16 : decode cX4_step 16 = .ok (.iconst (-1), 1) := by decide +kernel
theorem dX4_step_17 : decode cX4_step 17 = .ok (.if_icmp .ne 13, 3) := by decide +kernel
theorem dX4_step_20 : decode cX4_step 20 = .ok (.new 47, 3) := by decide +kernel
theorem dX4_step_23 : decode cX4_step 23 = .ok (.dup, 1) := by decide +kernel
theorem dX4_step_24 : decode cX4_step 24 = .ok (.ldc 169, 2) := by decide +kernel
theorem dX4_step_26 : decode cX4_step 26 = .ok (.invokespecial 51, 3) := by decide +kernel
theorem dX4_step_29 : decode cX4_step 29 = .ok (.athrow, 1) := by decide +kernel
theorem dX4_step_30 : decode cX4_step 30 = .ok (.aload_n 0, 1) := by decide +kernel
theorem dX4_step_31 : decode cX4_step 31 = .ok (.getfield 35, 3) := by decide +kernel
theorem dX4_step_34 : decode cX4_step 34 = .ok (.iload_n 1, 1) := by decide +kernel
theorem dX4_step_35 : decode cX4_step 35 = .ok (.invokevirtual 171, 3) := by decide +kernel
theorem dX4_step_38 : decode cX4_step 38 = .ok (.ifCond .eq 7, 3) := by decide +kernel
theorem dX4_step_41 : decode cX4_step 41 = .ok (.iload_n 1, 1) := by decide +kernel
theorem dX4_step_42 : decode cX4_step 42 = .ok (.goto 4, 3) := by decide +kernel
theorem dX4_step_45 : decode cX4_step 45 = .ok (.iconst (-1), 1) := by decide +kernel
theorem dX4_step_46 : decode cX4_step 46 = .ok (.ireturn, 1) := by decide +kernel
set_option maxRecDepth 20000 in
theorem ggX4_stepBack_X0_lastPlace : GoodIn wsX4_stepBack wsX0_lastPlace := goodIn_r _ [9, 10, 107, 108, 109, 110, 111, 112, 113, 114] (by decide +kernel) (by decide +kernel)
set_option maxRecDepth 20000 in
theorem gX4_stepBack_X0_lastPlace : GoodIn wsX4_stepBack (wsV RX4 174 RX0 yX0_lastPlace wsX0_lastPlace) := goodIn_app (goodIn_of _ (by decide +kernel)) ggX4_stepBack_X0_lastPlace
set_option maxRecDepth 20000 in
theorem ggX4_stepBack_X1_bestAt : GoodIn wsX4_stepBack wsX1_bestAt := goodIn_r _ [15, 16, 17, 18, 19, 20, 21, 22, 23, 24, 25, 26, 27, 14, 28, 29, 30, 31, 32, 33, 34, 35, 36, 37, 38, 39, 40, 41, 42, 43, 44, 45, 46, 47, 48, 49, 50, 51, 52, 53, 54, 55, 56, 57, 58, 59, 60, 61, 62, 63, 64, 65, 66, 67, 68, 69, 70, 71, 72, 73, 74, 75, 76, 77, 78, 79, 80, 81, 82, 83, 84, 85, 86, 87, 88, 89, 90, 91, 92, 93, 94, 95, 96, 115, 116, 117, 118, 119, 120, 121, 122, 123, 124, 125, 126, 127, 128] (by decide +kernel) (by decide +kernel)
set_option maxRecDepth 20000 in
theorem gX4_stepBack_X1_bestAt : GoodIn wsX4_stepBack (wsV RX4 145 RX1 yX1_bestAt wsX1_bestAt) := goodIn_app (goodIn_of _ (by decide +kernel)) ggX4_stepBack_X1_bestAt
set_option maxRecDepth 20000 in
theorem ggX4_stepBack_X0_takeOut : GoodIn wsX4_stepBack wsX0_takeOut := goodIn_r _ [100, 101, 10, 102, 107, 108, 109, 110, 111, 112, 113, 114] (by decide +kernel) (by decide +kernel)
set_option maxRecDepth 20000 in
theorem gX4_stepBack_X0_takeOut : GoodIn wsX4_stepBack (wsV RX4 179 RX0 yX0_takeOut wsX0_takeOut) := goodIn_app (goodIn_of _ (by decide +kernel)) ggX4_stepBack_X0_takeOut
theorem dX4_stepBack_0 : decode cX4_stepBack 0 = .ok (.aload_n 0, 1) := by decide +kernel
theorem dX4_stepBack_1 : decode cX4_stepBack 1 = .ok (.getfield 28, 3) := by decide +kernel
theorem dX4_stepBack_4 : decode cX4_stepBack 4 = .ok (.aload_n 0, 1) := by decide +kernel
theorem dX4_stepBack_5 : decode cX4_stepBack 5 = .ok (.getfield 35, 3) := by decide +kernel
theorem dX4_stepBack_8 : decode cX4_stepBack 8 = .ok (.invokevirtual 174, 3) := by decide +kernel
theorem dX4_stepBack_11 : decode cX4_stepBack 11 = .ok (.invokevirtual 145, 3) := by decide +kernel
theorem dX4_stepBack_14 : decode cX4_stepBack 14 = .ok (.istore_n 1, 1) := by decide +kernel
theorem dX4_stepBack_15 : decode cX4_stepBack 15 = .ok (.iload_n 1, 1) := by decide +kernel
theorem dX4_stepBack_16 : decode cX4_stepBack 16 = .ok (.iconst (-1), 1) := by decide +kernel
theorem dX4_stepBack_17 : decode cX4_stepBack 17 = .ok (.if_icmp .ne 13, 3) := by decide +kernel
theorem dX4_stepBack_20 : decode cX4_stepBack 20 = .ok (.new 47, 3) := by decide +kernel
theorem dX4_stepBack_23 : decode cX4_stepBack 23 = .ok (.dup, 1) := by decide +kernel
theorem dX4_stepBack_24 : decode cX4_stepBack 24 = .ok (.ldc 177, 2) := by decide +kernel
theorem dX4_stepBack_26 : decode cX4_stepBack 26 = .ok (.invokespecial 51, 3) := by decide +kernel
theorem dX4_stepBack_29 : decode cX4_stepBack 29 = .ok (.athrow, 1) := by decide +kernel
theorem dX4_stepBack_30 : decode cX4_stepBack 30 = .ok (.aload_n 0, 1) := by decide +kernel
theorem dX4_stepBack_31 : decode cX4_stepBack 31 = .ok (.getfield 35, 3) := by decide +kernel
theorem dX4_stepBack_34 : decode cX4_stepBack 34 = .ok (.iload_n 1, 1) := by decide +kernel
theorem dX4_stepBack_35 : decode cX4_stepBack 35 = .ok (.invokevirtual 179, 3) := by decide +kernel
theorem dX4_stepBack_38 : decode cX4_stepBack 38 = .ok (.iload_n 1, 1) := by decide +kernel
theorem dX4_stepBack_39 : decode cX4_stepBack 39 = .ok (.ireturn, 1) := by decide +kernel
set_option maxRecDepth 20000 in
theorem ggX4_built_X0_partsIn : GoodIn wsX4_built wsX0_partsIn := goodIn_r _ [6, 7, 12, 13, 14, 15, 16, 17, 18, 19] (by decide +kernel) (by decide +kernel)
set_option maxRecDepth 20000 in
theorem gX4_built_X0_partsIn : GoodIn wsX4_built (wsV RX4 182 RX0 yX0_partsIn wsX0_partsIn) := goodIn_app (goodIn_of _ (by decide +kernel)) ggX4_built_X0_partsIn
theorem dX4_built_0 : decode cX4_built 0 = .ok (.aload_n 0, 1) := by decide +kernel
theorem dX4_built_1 : decode cX4_built 1 = .ok (.getfield 35, 3) := by decide +kernel
theorem dX4_built_4 : decode cX4_built 4 = .ok (.invokevirtual 182, 3) := by decide +kernel
theorem dX4_built_7 : decode cX4_built 7 = .ok (.ireturn, 1) := by decide +kernel
set_option maxRecDepth 20000 in
theorem ggX4_clock_X0_timeSinceStart : GoodIn wsX4_clock wsX0_timeSinceStart := goodIn_r _ [6, 7, 12, 13, 14, 15, 16, 17, 18, 19] (by decide +kernel) (by decide +kernel)
set_option maxRecDepth 20000 in
theorem gX4_clock_X0_timeSinceStart : GoodIn wsX4_clock (wsV RX4 185 RX0 yX0_timeSinceStart wsX0_timeSinceStart) := goodIn_app (goodIn_of _ (by decide +kernel)) ggX4_clock_X0_timeSinceStart
theorem dX4_clock_0 : decode cX4_clock 0 = .ok (.aload_n 0, 1) := by decide +kernel
theorem dX4_clock_1 : decode cX4_clock 1 = .ok (.getfield 35, 3) := by decide +kernel
theorem dX4_clock_4 : decode cX4_clock 4 = .ok (.invokevirtual 185, 3) := by decide +kernel
theorem dX4_clock_7 : decode cX4_clock 7 = .ok (.ireturn, 1) := by decide +kernel
set_option maxRecDepth 20000 in
theorem ggX4_mounted_X0_toolMounted : GoodIn wsX4_mounted wsX0_toolMounted := goodIn_r _ [6, 7, 12, 13, 14, 15, 16, 17, 18, 19] (by decide +kernel) (by decide +kernel)
set_option maxRecDepth 20000 in
theorem gX4_mounted_X0_toolMounted : GoodIn wsX4_mounted (wsV RX4 188 RX0 yX0_toolMounted wsX0_toolMounted) := goodIn_app (goodIn_of _ (by decide +kernel)) ggX4_mounted_X0_toolMounted
theorem dX4_mounted_0 : decode cX4_mounted 0 = .ok (.aload_n 0, 1) := by decide +kernel
theorem dX4_mounted_1 : decode cX4_mounted 1 = .ok (.getfield 35, 3) := by decide +kernel
theorem dX4_mounted_4 : decode cX4_mounted 4 = .ok (.invokevirtual 188, 3) := by decide +kernel
theorem dX4_mounted_7 : decode cX4_mounted 7 = .ok (.ireturn, 1) := by decide +kernel
set_option maxRecDepth 20000 in
theorem ggX4_isBypassed_X4_needPart : GoodIn wsX4_isBypassed wsX4_needPart := goodIn_ca (goodIn_r _ [6, 7, 8, 9, 10, 11, 12, 13, 14, 15, 22, 23, 24, 25, 26, 27, 28, 29, 30, 31] (by decide +kernel) (by decide +kernel)) (goodIn_sub (fun _ h => List.mem_cons_of_mem _ (List.mem_append_right _ h)) (by decide +kernel))
set_option maxRecDepth 20000 in
theorem gX4_isBypassed_X4_needPart : GoodIn wsX4_isBypassed (wsV RX4 61 RX4 yX4_needPart wsX4_needPart) := goodIn_app (goodIn_of _ (by decide +kernel)) ggX4_isBypassed_X4_needPart
set_option maxRecDepth 20000 in
theorem ggX4_isBypassed_X0_bypassed : GoodIn wsX4_isBypassed wsX0_bypassed := goodIn_r _ [20, 21, 32, 33, 34, 35, 36, 37, 38, 39] (by decide +kernel) (by decide +kernel)
set_option maxRecDepth 20000 in
theorem gX4_isBypassed_X0_bypassed : GoodIn wsX4_isBypassed (wsV RX4 191 RX0 yX0_bypassed wsX0_bypassed) := goodIn_app (goodIn_of _ (by decide +kernel)) ggX4_isBypassed_X0_bypassed
theorem dX4_isBypassed_0 : decode cX4_isBypassed 0 = .ok (.aload_n 0, 1) := by decide +kernel
theorem dX4_isBypassed_1 : decode cX4_isBypassed 1 = .ok (.iload_n 1, 1) := by decide +kernel
theorem dX4_isBypassed_2 : decode cX4_isBypassed 2 = .ok (.invokevirtual 61, 3) := by decide +kernel
theorem dX4_isBypassed_5 : decode cX4_isBypassed 5 = .ok (.aload_n 0, 1) := by decide +kernel
theorem dX4_isBypassed_6 : decode cX4_isBypassed 6 = .ok (.getfield 35, 3) := by decide +kernel
theorem dX4_isBypassed_9 : decode cX4_isBypassed 9 = .ok (.iload_n 1, 1) := by decide +kernel
theorem dX4_isBypassed_10 : decode cX4_isBypassed 10 = .ok (.invokevirtual 191, 3) := by decide +kernel
theorem dX4_isBypassed_13 : decode cX4_isBypassed 13 = .ok (.ireturn, 1) := by decide +kernel
set_option maxRecDepth 20000 in
theorem ggX4_productIsTold_X2_forget : GoodIn wsX4_productIsTold wsX2_forget := goodIn_r _ [8, 9, 31, 32, 33, 34, 35, 36] (by decide +kernel) (by decide +kernel)
set_option maxRecDepth 20000 in
theorem gX4_productIsTold_X2_forget : GoodIn wsX4_productIsTold (wsV RX4 194 RX2 yX2_forget wsX2_forget) := goodIn_app (goodIn_of _ (by decide +kernel)) ggX4_productIsTold_X2_forget
set_option maxRecDepth 20000 in
theorem ggX4_productIsTold_X1_forget : GoodIn wsX4_productIsTold wsX1_forget := goodIn_r _ [14, 15, 37, 38, 39, 40, 41, 42, 43, 44] (by decide +kernel) (by decide +kernel)
set_option maxRecDepth 20000 in
theorem gX4_productIsTold_X1_forget : GoodIn wsX4_productIsTold (wsV RX4 197 RX1 yX1_forget wsX1_forget) := goodIn_app (goodIn_of _ (by decide +kernel)) ggX4_productIsTold_X1_forget
set_option maxRecDepth 20000 in
theorem ggX4_productIsTold_X0_halt : GoodIn wsX4_productIsTold wsX0_halt := goodIn_r _ [20, 21, 22, 23, 24, 25, 26, 45, 46, 47, 48, 49, 50, 51, 52] (by decide +kernel) (by decide +kernel)
set_option maxRecDepth 20000 in
theorem gX4_productIsTold_X0_halt : GoodIn wsX4_productIsTold (wsV RX4 198 RX0 yX0_halt wsX0_halt) := goodIn_app (goodIn_of _ (by decide +kernel)) ggX4_productIsTold_X0_halt
theorem dX4_productIsTold_0 : decode cX4_productIsTold 0 = .ok (.aload_n 0, 1) := by decide +kernel
theorem dX4_productIsTold_1 : decode cX4_productIsTold 1 = .ok (.getfield 21, 3) := by decide +kernel
theorem dX4_productIsTold_4 : decode cX4_productIsTold 4 = .ok (.invokevirtual 194, 3) := by decide +kernel
theorem dX4_productIsTold_7 : decode cX4_productIsTold 7 = .ok (.aload_n 0, 1) := by decide +kernel
theorem dX4_productIsTold_8 : decode cX4_productIsTold 8 = .ok (.getfield 28, 3) := by decide +kernel
theorem dX4_productIsTold_11 : decode cX4_productIsTold 11 = .ok (.invokevirtual 197, 3) := by decide +kernel
theorem dX4_productIsTold_14 : decode cX4_productIsTold 14 = .ok (.aload_n 0, 1) := by decide +kernel
theorem dX4_productIsTold_15 : decode cX4_productIsTold 15 = .ok (.getfield 35, 3) := by decide +kernel
theorem dX4_productIsTold_18 : decode cX4_productIsTold 18 = .ok (.invokevirtual 198, 3) := by decide +kernel
theorem dX4_productIsTold_21 : decode cX4_productIsTold 21 = .ok (.return_, 1) := by decide +kernel
set_option maxRecDepth 20000 in
theorem ggX4_needPart_X3_count : GoodIn wsX4_needPart wsX3_count := goodIn_r _ [8, 9, 14, 15, 16, 17, 18, 19] (by decide +kernel) (by decide +kernel)
set_option maxRecDepth 20000 in
theorem gX4_needPart_X3_count : GoodIn wsX4_needPart (wsV RX4 43 RX3 yX3_count wsX3_count) := goodIn_app (goodIn_of _ (by decide +kernel)) ggX4_needPart_X3_count
theorem dX4_needPart_0 : decode cX4_needPart 0 = .ok (.iload_n 1, 1) := by decide +kernel
theorem dX4_needPart_1 : decode cX4_needPart 1 = .ok (.ifCond .lt 14, 3) := by decide +kernel
theorem dX4_needPart_4 : decode cX4_needPart 4 = .ok (.iload_n 1, 1) := by decide +kernel
theorem dX4_needPart_5 : decode cX4_needPart 5 = .ok (.aload_n 0, 1) := by decide +kernel
theorem dX4_needPart_6 : decode cX4_needPart 6 = .ok (.getfield 12, 3) := by decide +kernel
theorem dX4_needPart_9 : decode cX4_needPart 9 = .ok (.invokevirtual 43, 3) := by decide +kernel
theorem dX4_needPart_12 : decode cX4_needPart 12 = .ok (.if_icmp .lt 13, 3) := by decide +kernel
theorem dX4_needPart_15 : decode cX4_needPart 15 = .ok (.new 148, 3) := by decide +kernel
theorem dX4_needPart_18 : decode cX4_needPart 18 = .ok (.dup, 1) := by decide +kernel
theorem dX4_needPart_19 : decode cX4_needPart 19 = .ok (.ldc 201, 2) := by decide +kernel
theorem dX4_needPart_21 : decode cX4_needPart 21 = .ok (.invokespecial 152, 3) := by decide +kernel
theorem dX4_needPart_24 : decode cX4_needPart 24 = .ok (.athrow, 1) := by decide +kernel
theorem dX4_needPart_25 : decode cX4_needPart 25 = .ok (.return_, 1) := by decide +kernel
theorem dX4_needDirection_0 : decode cX4_needDirection 0 = .ok (.iload_n 1, 1) := by decide +kernel
theorem dX4_needDirection_1 : decode cX4_needDirection 1 = .ok (.ifCond .lt 9, 3) := by decide +kernel
theorem dX4_needDirection_4 : decode cX4_needDirection 4 = .ok (.iload_n 1, 1) := by decide +kernel
theorem dX4_needDirection_5 : decode cX4_needDirection 5 = .ok (.bipush 6, 2) := by decide +kernel
theorem dX4_needDirection_7 : decode cX4_needDirection 7 = .ok (.if_icmp .lt 13, 3) := by decide +kernel
theorem dX4_needDirection_10 : decode cX4_needDirection 10 = .ok (.new 148, 3) := by decide +kernel
theorem dX4_needDirection_13 : decode cX4_needDirection 13 = .ok (.dup, 1) := by decide +kernel
theorem dX4_needDirection_14 : decode cX4_needDirection 14 = .ok (.ldc 203, 2) := by decide +kernel
theorem dX4_needDirection_16 : decode cX4_needDirection 16 = .ok (.invokespecial 152, 3) := by decide +kernel
theorem dX4_needDirection_19 : decode cX4_needDirection 19 = .ok (.athrow, 1) := by decide +kernel
theorem dX4_needDirection_20 : decode cX4_needDirection 20 = .ok (.return_, 1) := by decide +kernel
theorem dX4_needTool_0 : decode cX4_needTool 0 = .ok (.iload_n 1, 1) := by decide +kernel
theorem dX4_needTool_1 : decode cX4_needTool 1 = .ok (.ifCond .lt 8, 3) := by decide +kernel
theorem dX4_needTool_4 : decode cX4_needTool 4 = .ok (.iload_n 1, 1) := by decide +kernel
theorem dX4_needTool_5 : decode cX4_needTool 5 = .ok (.iconst 4, 1) := by decide +kernel
theorem dX4_needTool_6 : decode cX4_needTool 6 = .ok (.if_icmp .lt 13, 3) := by decide +kernel
theorem dX4_needTool_9 : decode cX4_needTool 9 = .ok (.new 153, 3) := by decide +kernel
theorem dX4_needTool_12 : decode cX4_needTool 12 = .ok (.dup, 1) := by decide +kernel
theorem dX4_needTool_13 : decode cX4_needTool 13 = .ok (.ldc 205, 2) := by decide +kernel
theorem dX4_needTool_15 : decode cX4_needTool 15 = .ok (.invokespecial 157, 3) := by decide +kernel
theorem dX4_needTool_18 : decode cX4_needTool 18 = .ok (.athrow, 1) := by decide +kernel
theorem dX4_needTool_19 : decode cX4_needTool 19 = .ok (.return_, 1) := by decide +kernel
theorem dX4_needDifferent_0 : decode cX4_needDifferent 0 = .ok (.iload_n 1, 1) := by decide +kernel
theorem dX4_needDifferent_1 : decode cX4_needDifferent 1 = .ok (.iload_n 2, 1) := by decide +kernel
theorem dX4_needDifferent_2 : decode cX4_needDifferent 2 = .ok (.if_icmp .ne 13, 3) := by decide +kernel
theorem dX4_needDifferent_5 : decode cX4_needDifferent 5 = .ok (.new 153, 3) := by decide +kernel
theorem dX4_needDifferent_8 : decode cX4_needDifferent 8 = .ok (.dup, 1) := by decide +kernel
theorem dX4_needDifferent_9 : decode cX4_needDifferent 9 = .ok (.ldc 207, 2) := by decide +kernel
theorem dX4_needDifferent_11 : decode cX4_needDifferent 11 = .ok (.invokespecial 157, 3) := by decide +kernel
theorem dX4_needDifferent_14 : decode cX4_needDifferent 14 = .ok (.athrow, 1) := by decide +kernel
theorem dX4_needDifferent_15 : decode cX4_needDifferent 15 = .ok (.return_, 1) := by decide +kernel
set_option maxRecDepth 20000 in
theorem ggX4_needSet_X3_all : GoodIn wsX4_needSet wsX3_all := goodIn_r _ [8, 9, 14, 15, 16, 17, 18, 19] (by decide +kernel) (by decide +kernel)
set_option maxRecDepth 20000 in
theorem gX4_needSet_X3_all : GoodIn wsX4_needSet (wsV RX4 125 RX3 yX3_all wsX3_all) := goodIn_app (goodIn_of _ (by decide +kernel)) ggX4_needSet_X3_all
theorem dX4_needSet_0 : decode cX4_needSet 0 = .ok (.iload_n 1, 1) := by decide +kernel
theorem dX4_needSet_1 : decode cX4_needSet 1 = .ok (.ifCond .eq 17, 3) := by decide +kernel
theorem dX4_needSet_4 : decode cX4_needSet 4 = .ok (.iload_n 1, 1) := by decide +kernel
theorem dX4_needSet_5 : decode cX4_needSet 5 = .ok (.aload_n 0, 1) := by decide +kernel
theorem dX4_needSet_6 : decode cX4_needSet 6 = .ok (.getfield 12, 3) := by decide +kernel
theorem dX4_needSet_9 : decode cX4_needSet 9 = .ok (.invokevirtual 125, 3) := by decide +kernel
theorem dX4_needSet_12 : decode cX4_needSet 12 = .ok (.iconst (-1), 1) := by decide +kernel
theorem dX4_needSet_13 : decode cX4_needSet 13 = .ok (.ixor, 1) := by decide +kernel
theorem dX4_needSet_14 : decode cX4_needSet 14 = .ok (.iand, 1) := by decide +kernel
theorem dX4_needSet_15 : decode cX4_needSet 15 = .ok (.ifCond .eq 13, 3) := by decide +kernel
theorem dX4_needSet_18 : decode cX4_needSet 18 = .ok (.new 153, 3) := by decide +kernel
theorem dX4_needSet_21 : decode cX4_needSet 21 = .ok (.dup, 1) := by decide +kernel
theorem dX4_needSet_22 : decode cX4_needSet 22 = .ok (.ldc 209, 2) := by decide +kernel
theorem dX4_needSet_24 : decode cX4_needSet 24 = .ok (.invokespecial 157, 3) := by decide +kernel
theorem dX4_needSet_27 : decode cX4_needSet 27 = .ok (.athrow, 1) := by decide +kernel
theorem dX4_needSet_28 : decode cX4_needSet 28 = .ok (.return_, 1) := by decide +kernel
set_option maxRecDepth 20000 in
theorem ggX4_needSetWith_X4_needSet : GoodIn wsX4_needSetWith wsX4_needSet := goodIn_ca (goodIn_r _ [7, 1, 2, 8, 9, 10, 11, 12, 13, 14, 15, 16, 17, 18, 19, 20, 21, 22, 23, 24] (by decide +kernel) (by decide +kernel)) (goodIn_sub (fun _ h => List.mem_cons_of_mem _ (List.mem_append_right _ h)) (by decide +kernel))
set_option maxRecDepth 20000 in
theorem gX4_needSetWith_X4_needSet : GoodIn wsX4_needSetWith (wsV RX4 90 RX4 yX4_needSet wsX4_needSet) := goodIn_app (goodIn_of _ (by decide +kernel)) ggX4_needSetWith_X4_needSet
theorem dX4_needSetWith_0 : decode cX4_needSetWith 0 = .ok (.aload_n 0, 1) := by decide +kernel
theorem dX4_needSetWith_1 : decode cX4_needSetWith 1 = .ok (.iload_n 1, 1) := by decide +kernel
theorem dX4_needSetWith_2 : decode cX4_needSetWith 2 = .ok (.invokevirtual 90, 3) := by decide +kernel
theorem dX4_needSetWith_5 : decode cX4_needSetWith 5 = .ok (.iload_n 1, 1) := by decide +kernel
theorem dX4_needSetWith_6 : decode cX4_needSetWith 6 = .ok (.iconst 1, 1) := by decide +kernel
theorem dX4_needSetWith_7 : decode cX4_needSetWith 7 = .ok (.iload_n 2, 1) := by decide +kernel
theorem dX4_needSetWith_8 : decode cX4_needSetWith 8 = .ok (.ishl, 1) := by decide +kernel
theorem dX4_needSetWith_9 : decode cX4_needSetWith 9 = .ok (.iand, 1) := by decide +kernel
theorem dX4_needSetWith_10 : decode cX4_needSetWith 10 = .ok (.ifCond .ne 13, 3) := by decide +kernel
theorem dX4_needSetWith_13 : decode cX4_needSetWith 13 = .ok (.new 153, 3) := by decide +kernel
theorem dX4_needSetWith_16 : decode cX4_needSetWith 16 = .ok (.dup, 1) := by decide +kernel
theorem dX4_needSetWith_17 : decode cX4_needSetWith 17 = .ok (.ldc 211, 2) := by decide +kernel
theorem dX4_needSetWith_19 : decode cX4_needSetWith 19 = .ok (.invokespecial 157, 3) := by decide +kernel
theorem dX4_needSetWith_22 : decode cX4_needSetWith 22 = .ok (.athrow, 1) := by decide +kernel
theorem dX4_needSetWith_23 : decode cX4_needSetWith 23 = .ok (.return_, 1) := by decide +kernel
set_option maxRecDepth 20000 in
theorem ggX4_needParts_X3_count : GoodIn wsX4_needParts wsX3_count := goodIn_r _ [8, 9, 14, 15, 16, 17, 18, 19] (by decide +kernel) (by decide +kernel)
set_option maxRecDepth 20000 in
theorem gX4_needParts_X3_count : GoodIn wsX4_needParts (wsV RX4 43 RX3 yX3_count wsX3_count) := goodIn_app (goodIn_of _ (by decide +kernel)) ggX4_needParts_X3_count
theorem dX4_needParts_0 : decode cX4_needParts 0 = .ok (.aload_n 0, 1) := by decide +kernel
theorem dX4_needParts_1 : decode cX4_needParts 1 = .ok (.getfield 12, 3) := by decide +kernel
theorem dX4_needParts_4 : decode cX4_needParts 4 = .ok (.invokevirtual 43, 3) := by decide +kernel
theorem dX4_needParts_7 : decode cX4_needParts 7 = .ok (.ifCond .ne 13, 3) := by decide +kernel
theorem dX4_needParts_10 : decode cX4_needParts 10 = .ok (.new 47, 3) := by decide +kernel
theorem dX4_needParts_13 : decode cX4_needParts 13 = .ok (.dup, 1) := by decide +kernel
theorem dX4_needParts_14 : decode cX4_needParts 14 = .ok (.ldc 213, 2) := by decide +kernel
theorem dX4_needParts_16 : decode cX4_needParts 16 = .ok (.invokespecial 51, 3) := by decide +kernel
theorem dX4_needParts_19 : decode cX4_needParts 19 = .ok (.athrow, 1) := by decide +kernel
theorem dX4_needParts_20 : decode cX4_needParts 20 = .ok (.return_, 1) := by decide +kernel
end
section
theorem dX5_init_0 : decode cX5_init 0 = .ok (.aload_n 0, 1) := by decide +kernel
theorem dX5_init_1 : decode cX5_init 1 = .ok (.invokespecial 1, 3) := by decide +kernel
theorem dX5_init_4 : decode cX5_init 4 = .ok (.aload_n 0, 1) := by decide +kernel
theorem dX5_init_5 : decode cX5_init 5 = .ok (.bipush 8, 2) := by decide +kernel
theorem dX5_init_7 : decode cX5_init 7 = .ok (.newarray .int, 2) := by decide +kernel
theorem dX5_init_9 : decode cX5_init 9 = .ok (.putfield 7, 3) := by decide +kernel
theorem dX5_init_12 : decode cX5_init 12 = .ok (.aload_n 0, 1) := by decide +kernel
theorem dX5_init_13 : decode cX5_init 13 = .ok (.bipush 8, 2) := by decide +kernel
theorem dX5_init_15 : decode cX5_init 15 = .ok (.newarray .int, 2) := by decide +kernel
theorem dX5_init_17 : decode cX5_init 17 = .ok (.putfield 13, 3) := by decide +kernel
theorem dX5_init_20 : decode cX5_init 20 = .ok (.aload_n 0, 1) := by decide +kernel
theorem dX5_init_21 : decode cX5_init 21 = .ok (.bipush 48, 2) := by decide +kernel
theorem dX5_init_23 : decode cX5_init 23 = .ok (.newarray .int, 2) := by decide +kernel
theorem dX5_init_25 : decode cX5_init 25 = .ok (.putfield 16, 3) := by decide +kernel
theorem dX5_init_28 : decode cX5_init 28 = .ok (.aload_n 0, 1) := by decide +kernel
theorem dX5_init_29 : decode cX5_init 29 = .ok (.bipush 8, 2) := by decide +kernel
theorem dX5_init_31 : decode cX5_init 31 = .ok (.newarray .int, 2) := by decide +kernel
theorem dX5_init_33 : decode cX5_init 33 = .ok (.putfield 19, 3) := by decide +kernel
theorem dX5_init_36 : decode cX5_init 36 = .ok (.aload_n 0, 1) := by decide +kernel
theorem dX5_init_37 : decode cX5_init 37 = .ok (.bipush 8, 2) := by decide +kernel
theorem dX5_init_39 : decode cX5_init 39 = .ok (.newarray .int, 2) := by decide +kernel
theorem dX5_init_41 : decode cX5_init 41 = .ok (.putfield 22, 3) := by decide +kernel
theorem dX5_init_44 : decode cX5_init 44 = .ok (.aload_n 0, 1) := by decide +kernel
theorem dX5_init_45 : decode cX5_init 45 = .ok (.sipush 256, 3) := by decide +kernel
theorem dX5_init_48 : decode cX5_init 48 = .ok (.newarray .int, 2) := by decide +kernel
theorem dX5_init_50 : decode cX5_init 50 = .ok (.putfield 25, 3) := by decide +kernel
theorem dX5_init_53 : decode cX5_init 53 = .ok (.aload_n 0, 1) := by decide +kernel
theorem dX5_init_54 : decode cX5_init 54 = .ok (.sipush 256, 3) := by decide +kernel
theorem dX5_init_57 : decode cX5_init 57 = .ok (.newarray .int, 2) := by decide +kernel
theorem dX5_init_59 : decode cX5_init 59 = .ok (.putfield 28, 3) := by decide +kernel
theorem dX5_init_62 : decode cX5_init 62 = .ok (.aload_n 0, 1) := by decide +kernel
theorem dX5_init_63 : decode cX5_init 63 = .ok (.sipush 256, 3) := by decide +kernel
theorem dX5_init_66 : decode cX5_init 66 = .ok (.newarray .int, 2) := by decide +kernel
theorem dX5_init_68 : decode cX5_init 68 = .ok (.putfield 31, 3) := by decide +kernel
theorem dX5_init_71 : decode cX5_init 71 = .ok (.aload_n 0, 1) := by decide +kernel
theorem dX5_init_72 : decode cX5_init 72 = .ok (.sipush 2048, 3) := by decide +kernel
theorem dX5_init_75 : decode cX5_init 75 = .ok (.newarray .int, 2) := by decide +kernel
theorem dX5_init_77 : decode cX5_init 77 = .ok (.putfield 34, 3) := by decide +kernel
theorem dX5_init_80 : decode cX5_init 80 = .ok (.aload_n 0, 1) := by decide +kernel
theorem dX5_init_81 : decode cX5_init 81 = .ok (.bipush 8, 2) := by decide +kernel
theorem dX5_init_83 : decode cX5_init 83 = .ok (.newarray .int, 2) := by decide +kernel
theorem dX5_init_85 : decode cX5_init 85 = .ok (.putfield 37, 3) := by decide +kernel
theorem dX5_init_88 : decode cX5_init 88 = .ok (.return_, 1) := by decide +kernel
theorem dX5_thrown_0 : decode cX5_thrown 0 = .ok (.aload_n 0, 1) := by decide +kernel
theorem dX5_thrown_1 : decode cX5_thrown 1 = .ok (.getfield 40, 3) := by decide +kernel
theorem dX5_thrown_4 : decode cX5_thrown 4 = .ok (.ireturn, 1) := by decide +kernel
theorem dX5_holds_0 : decode cX5_holds 0 = .ok (.aload_n 0, 1) := by decide +kernel
theorem dX5_holds_1 : decode cX5_holds 1 = .ok (.iload_n 1, 1) := by decide +kernel
theorem dX5_holds_2 : decode cX5_holds 2 = .ok (.putfield 40, 3) := by decide +kernel
theorem dX5_holds_5 : decode cX5_holds 5 = .ok (.iload_n 1, 1) := by decide +kernel
theorem dX5_holds_6 : decode cX5_holds 6 = .ok (.ifCond .ne 7, 3) := by decide +kernel
theorem dX5_holds_9 : decode cX5_holds 9 = .ok (.iconst 1, 1) := by decide +kernel
theorem dX5_holds_10 : decode cX5_holds 10 = .ok (.goto 4, 3) := by decide +kernel
theorem dX5_holds_13 : decode cX5_holds 13 = .ok (.iconst 0, 1) := by decide +kernel
theorem dX5_holds_14 : decode cX5_holds 14 = .ok (.ireturn, 1) := by decide +kernel
theorem dX5_isPart_0 : decode cX5_isPart 0 = .ok (.iload_n 1, 1) := by decide +kernel
theorem dX5_isPart_1 : decode cX5_isPart 1 = .ok (.ifCond .lt 15, 3) := by decide +kernel
theorem dX5_isPart_4 : decode cX5_isPart 4 = .ok (.iload_n 1, 1) := by decide +kernel
theorem dX5_isPart_5 : decode cX5_isPart 5 = .ok (.aload_n 0, 1) := by decide +kernel
theorem dX5_isPart_6 : decode cX5_isPart 6 = .ok (.getfield 44, 3) := by decide +kernel
theorem dX5_isPart_9 : decode cX5_isPart 9 = .ok (.if_icmp .ge 7, 3) := by decide +kernel
theorem dX5_isPart_12 : decode cX5_isPart 12 = .ok (.iconst 1, 1) := by decide +kernel
theorem dX5_isPart_13 : decode cX5_isPart 13 = .ok (.goto 4, 3) := by decide +kernel
theorem dX5_isPart_16 : decode cX5_isPart 16 = .ok (.iconst 0, 1) := by decide +kernel
theorem dX5_isPart_17 : decode cX5_isPart 17 = .ok (.ireturn, 1) := by decide +kernel
theorem dX5_isTool_0 : decode cX5_isTool 0 = .ok (.iload_n 0, 1) := by decide +kernel
theorem dX5_isTool_1 : decode cX5_isTool 1 = .ok (.ifCond .lt 12, 3) := by decide +kernel
theorem dX5_isTool_4 : decode cX5_isTool 4 = .ok (.iload_n 0, 1) := by decide +kernel
theorem dX5_isTool_5 : decode cX5_isTool 5 = .ok (.iconst 4, 1) := by decide +kernel
theorem dX5_isTool_6 : decode cX5_isTool 6 = .ok (.if_icmp .ge 7, 3) := by decide +kernel
theorem dX5_isTool_9 : decode cX5_isTool 9 = .ok (.iconst 1, 1) := by decide +kernel
theorem dX5_isTool_10 : decode cX5_isTool 10 = .ok (.goto 4, 3) := by decide +kernel
theorem dX5_isTool_13 : decode cX5_isTool 13 = .ok (.iconst 0, 1) := by decide +kernel
theorem dX5_isTool_14 : decode cX5_isTool 14 = .ok (.ireturn, 1) := by decide +kernel
theorem dX5_isDirection_0 : decode cX5_isDirection 0 = .ok (.iload_n 0, 1) := by decide +kernel
theorem dX5_isDirection_1 : decode cX5_isDirection 1 = .ok (.ifCond .lt 13, 3) := by decide +kernel
theorem dX5_isDirection_4 : decode cX5_isDirection 4 = .ok (.iload_n 0, 1) := by decide +kernel
theorem dX5_isDirection_5 : decode cX5_isDirection 5 = .ok (.bipush 6, 2) := by decide +kernel
theorem dX5_isDirection_7 : decode cX5_isDirection 7 = .ok (.if_icmp .ge 7, 3) := by decide +kernel
theorem dX5_isDirection_10 : decode cX5_isDirection 10 = .ok (.iconst 1, 1) := by decide +kernel
theorem dX5_isDirection_11 : decode cX5_isDirection 11 = .ok (.goto 4, 3) := by decide +kernel
theorem dX5_isDirection_14 : decode cX5_isDirection 14 = .ok (.iconst 0, 1) := by decide +kernel
theorem dX5_isDirection_15 : decode cX5_isDirection 15 = .ok (.ireturn, 1) := by decide +kernel
theorem dX5_whole_0 : decode cX5_whole 0 = .ok (.iconst 1, 1) := by decide +kernel
theorem dX5_whole_1 : decode cX5_whole 1 = .ok (.aload_n 0, 1) := by decide +kernel
theorem dX5_whole_2 : decode cX5_whole 2 = .ok (.getfield 44, 3) := by decide +kernel
theorem dX5_whole_5 : decode cX5_whole 5 = .ok (.ishl, 1) := by decide +kernel
theorem dX5_whole_6 : decode cX5_whole 6 = .ok (.iconst 1, 1) := by decide +kernel
theorem dX5_whole_7 : decode cX5_whole 7 = .ok (.isub, 1) := by decide +kernel
theorem dX5_whole_8 : decode cX5_whole 8 = .ok (.ireturn, 1) := by decide +kernel
theorem dX5_bits_0 : decode cX5_bits 0 = .ok (.iconst 0, 1) := by decide +kernel
theorem dX5_bits_1 : decode cX5_bits 1 = .ok (.istore_n 1, 1) := by decide +kernel
theorem dX5_bits_2 : decode cX5_bits 2 = .ok (.iconst 0, 1) := by decide +kernel
theorem dX5_bits_3 : decode cX5_bits 3 = .ok (.istore_n 2, 1) := by decide +kernel
theorem dX5_bits_4 : decode cX5_bits 4 = .ok (.iload_n 2, 1) := by decide +kernel
theorem dX5_bits_5 : decode cX5_bits 5 = .ok (.bipush 8, 2) := by decide +kernel
theorem dX5_bits_7 : decode cX5_bits 7 = .ok (.if_icmp .ge 17, 3) := by decide +kernel
theorem dX5_bits_10 : decode cX5_bits 10 = .ok (.iload_n 1, 1) := by decide +kernel
theorem dX5_bits_11 : decode cX5_bits 11 = .ok (.iload_n 0, 1) := by decide +kernel
theorem dX5_bits_12 : decode cX5_bits 12 = .ok (.iload_n 2, 1) := by decide +kernel
theorem dX5_bits_13 : decode cX5_bits 13 = .ok (.ishr, 1) := by decide +kernel
theorem dX5_bits_14 : decode cX5_bits 14 = .ok (.iconst 1, 1) := by decide +kernel
theorem dX5_bits_15 : decode cX5_bits 15 = .ok (.iand, 1) := by decide +kernel
theorem dX5_bits_16 : decode cX5_bits 16 = .ok (.iadd, 1) := by decide +kernel
theorem dX5_bits_17 : decode cX5_bits 17 = .ok (.istore_n 1, 1) := by decide +kernel
theorem dX5_bits_18 : decode cX5_bits 18 = .ok (.iinc 2 1, 3) := by decide +kernel
theorem dX5_bits_21 : decode cX5_bits 21 = .ok (.goto (-17), 3) := by decide +kernel
theorem dX5_bits_24 : decode cX5_bits 24 = .ok (.iload_n 1, 1) := by decide +kernel
theorem dX5_bits_25 : decode cX5_bits 25 = .ok (.ireturn, 1) := by decide +kernel
set_option maxRecDepth 20000 in
theorem ggX5_addPart_X5_isTool : GoodIn wsX5_addPart wsX5_isTool := goodIn_r _ [7] (by decide +kernel) (by decide +kernel)
set_option maxRecDepth 20000 in
theorem gX5_addPart_X5_isTool : GoodIn wsX5_addPart (va_wsS RX5 47 yX5_isTool wsX5_isTool) := goodIn_app (goodIn_of _ (by decide +kernel)) ggX5_addPart_X5_isTool
set_option maxRecDepth 20000 in
theorem ggX5_addPart_X5_holds : GoodIn wsX5_addPart wsX5_holds := goodIn_r _ [11, 12, 13, 14, 15, 16, 17, 18, 19, 20, 21, 22, 23, 24, 25, 26, 27, 28, 29, 30, 31] (by decide +kernel) (by decide +kernel)
set_option maxRecDepth 20000 in
theorem gX5_addPart_X5_holds : GoodIn wsX5_addPart (wsV RX5 51 RX5 yX5_holds wsX5_holds) := goodIn_app (goodIn_of _ (by decide +kernel)) ggX5_addPart_X5_holds
theorem dX5_addPart_0 : decode cX5_addPart 0 = .ok (.aload_n 0, 1) := by decide +kernel
theorem dX5_addPart_1 : decode cX5_addPart 1 = .ok (.iload_n 1, 1) := by decide +kernel
theorem dX5_addPart_2 : decode cX5_addPart 2 = .ok (.invokestatic 47, 3) := by decide +kernel
theorem dX5_addPart_5 : decode cX5_addPart 5 = .ok (.ifCond .ne 7, 3) := by decide +kernel
theorem dX5_addPart_8 : decode cX5_addPart 8 = .ok (.iconst 1, 1) := by decide +kernel
theorem dX5_addPart_9 : decode cX5_addPart 9 = .ok (.goto 17, 3) := by decide +kernel
theorem dX5_addPart_12 : decode cX5_addPart 12 = .ok (.aload_n 0, 1) := by decide +kernel
theorem dX5_addPart_13 : decode cX5_addPart 13 = .ok (.getfield 44, 3) := by decide +kernel
theorem dX5_addPart_16 : decode cX5_addPart 16 = .ok (.bipush 8, 2) := by decide +kernel
theorem dX5_addPart_18 : decode cX5_addPart 18 = .ok (.if_icmp .ne 7, 3) := by decide +kernel
theorem dX5_addPart_21 : decode cX5_addPart 21 = .ok (.iconst 2, 1) := by decide +kernel
theorem dX5_addPart_22 : decode cX5_addPart 22 = .ok (.goto 4, 3) := by decide +kernel
theorem dX5_addPart_25 : decode cX5_addPart 25 = .ok (.iconst 0, 1) := by decide +kernel
theorem dX5_addPart_26 : decode cX5_addPart 26 = .ok (.invokevirtual 51, 3) := by decide +kernel
theorem dX5_addPart_29 : decode cX5_addPart 29 = .ok (.ifCond .ne 5, 3) := by decide +kernel
theorem dX5_addPart_32 : decode cX5_addPart 32 = .ok (.iconst 0, 1) := by decide +kernel
theorem dX5_addPart_33 : decode cX5_addPart 33 = .ok (.ireturn, 1) := by decide +kernel
theorem dX5_addPart_34 : decode cX5_addPart 34 = .ok (.aload_n 0, 1) := by decide +kernel
theorem dX5_addPart_35 : decode cX5_addPart 35 = .ok (.getfield 7, 3) := by decide +kernel
theorem dX5_addPart_38 : decode cX5_addPart 38 = .ok (.aload_n 0, 1) := by decide +kernel
theorem dX5_addPart_39 : decode cX5_addPart 39 = .ok (.getfield 44, 3) := by decide +kernel
theorem dX5_addPart_42 : decode cX5_addPart 42 = .ok (.iload_n 1, 1) := by decide +kernel
theorem dX5_addPart_43 : decode cX5_addPart 43 = .ok (.iastore, 1) := by decide +kernel
theorem dX5_addPart_44 : decode cX5_addPart 44 = .ok (.aload_n 0, 1) := by decide +kernel
theorem dX5_addPart_45 : decode cX5_addPart 45 = .ok (.dup, 1) := by decide +kernel
theorem dX5_addPart_46 : decode cX5_addPart 46 = .ok (.getfield 44, 3) := by decide +kernel
theorem dX5_addPart_49 : decode cX5_addPart 49 = .ok (.iconst 1, 1) := by decide +kernel
theorem dX5_addPart_50 : decode cX5_addPart 50 = .ok (.iadd, 1) := by decide +kernel
theorem dX5_addPart_51 : decode cX5_addPart 51 = .ok (.putfield 44, 3) := by decide +kernel
theorem dX5_addPart_54 : decode cX5_addPart 54 = .ok (.aload_n 0, 1) := by decide +kernel
theorem dX5_addPart_55 : decode cX5_addPart 55 = .ok (.iconst 0, 1) := by decide +kernel
theorem dX5_addPart_56 : decode cX5_addPart 56 = .ok (.putfield 54, 3) := by decide +kernel
theorem dX5_addPart_59 : decode cX5_addPart 59 = .ok (.aload_n 0, 1) := by decide +kernel
theorem dX5_addPart_60 : decode cX5_addPart 60 = .ok (.getfield 44, 3) := by decide +kernel
theorem dX5_addPart_63 : decode cX5_addPart 63 = .ok (.iconst 1, 1) := by decide +kernel
theorem dX5_addPart_64 : decode cX5_addPart 64 = .ok (.isub, 1) := by decide +kernel
theorem dX5_addPart_65 : decode cX5_addPart 65 = .ok (.ireturn, 1) := by decide +kernel
set_option maxRecDepth 20000 in
theorem ggX5_setTool_X5_isPart : GoodIn wsX5_setTool wsX5_isPart := goodIn_r _ [7, 8, 17, 18, 19, 20, 21, 22, 23, 24, 25, 26, 27, 28, 29, 30, 31, 32, 33, 34, 35] (by decide +kernel) (by decide +kernel)
set_option maxRecDepth 20000 in
theorem gX5_setTool_X5_isPart : GoodIn wsX5_setTool (wsV RX5 58 RX5 yX5_isPart wsX5_isPart) := goodIn_app (goodIn_of _ (by decide +kernel)) ggX5_setTool_X5_isPart
set_option maxRecDepth 20000 in
theorem ggX5_setTool_X5_isTool : GoodIn wsX5_setTool wsX5_isTool := goodIn_r _ [11] (by decide +kernel) (by decide +kernel)
set_option maxRecDepth 20000 in
theorem gX5_setTool_X5_isTool : GoodIn wsX5_setTool (va_wsS RX5 47 yX5_isTool wsX5_isTool) := goodIn_app (goodIn_of _ (by decide +kernel)) ggX5_setTool_X5_isTool
set_option maxRecDepth 20000 in
theorem ggX5_setTool_X5_holds : GoodIn wsX5_setTool wsX5_holds := goodIn_r _ [15, 16, 17, 18, 19, 20, 21, 22, 23, 24, 25, 26, 27, 28, 29, 30, 31, 32, 33, 34, 35] (by decide +kernel) (by decide +kernel)
set_option maxRecDepth 20000 in
theorem gX5_setTool_X5_holds : GoodIn wsX5_setTool (wsV RX5 51 RX5 yX5_holds wsX5_holds) := goodIn_app (goodIn_of _ (by decide +kernel)) ggX5_setTool_X5_holds
theorem dX5_setTool_0 : decode cX5_setTool 0 = .ok (.aload_n 0, 1) := by decide +kernel
theorem dX5_setTool_1 : decode cX5_setTool 1 = .ok (.aload_n 0, 1) := by decide +kernel
theorem dX5_setTool_2 : decode cX5_setTool 2 = .ok (.iload_n 1, 1) := by decide +kernel
theorem dX5_setTool_3 : decode cX5_setTool 3 = .ok (.invokevirtual 58, 3) := by decide +kernel
theorem dX5_setTool_6 : decode cX5_setTool 6 = .ok (.ifCond .ne 7, 3) := by decide +kernel
theorem dX5_setTool_9 : decode cX5_setTool 9 = .ok (.iconst 1, 1) := by decide +kernel
theorem dX5_setTool_10 : decode cX5_setTool 10 = .ok (.goto 15, 3) := by decide +kernel
theorem dX5_setTool_13 : decode cX5_setTool 13 = .ok (.iload_n 2, 1) := by decide +kernel
theorem dX5_setTool_14 : decode cX5_setTool 14 = .ok (.invokestatic 47, 3) := by decide +kernel
theorem dX5_setTool_17 : decode cX5_setTool 17 = .ok (.ifCond .eq 7, 3) := by decide +kernel
theorem dX5_setTool_20 : decode cX5_setTool 20 = .ok (.iconst 0, 1) := by decide +kernel
theorem dX5_setTool_21 : decode cX5_setTool 21 = .ok (.goto 4, 3) := by decide +kernel
theorem dX5_setTool_24 : decode cX5_setTool 24 = .ok (.iconst 2, 1) := by decide +kernel
theorem dX5_setTool_25 : decode cX5_setTool 25 = .ok (.invokevirtual 51, 3) := by decide +kernel
theorem dX5_setTool_28 : decode cX5_setTool 28 = .ok (.ifCond .ne 5, 3) := by decide +kernel
theorem dX5_setTool_31 : decode cX5_setTool 31 = .ok (.iconst 0, 1) := by decide +kernel
theorem dX5_setTool_32 : decode cX5_setTool 32 = .ok (.ireturn, 1) := by decide +kernel
theorem dX5_setTool_33 : decode cX5_setTool 33 = .ok (.aload_n 0, 1) := by decide +kernel
theorem dX5_setTool_34 : decode cX5_setTool 34 = .ok (.getfield 7, 3) := by decide +kernel
theorem dX5_setTool_37 : decode cX5_setTool 37 = .ok (.iload_n 1, 1) := by decide +kernel
theorem dX5_setTool_38 : decode cX5_setTool 38 = .ok (.iaload, 1) := by decide +kernel
theorem dX5_setTool_39 : decode cX5_setTool 39 = .ok (.istore_n 3, 1) := by decide +kernel
theorem dX5_setTool_40 : decode cX5_setTool 40 = .ok (.aload_n 0, 1) := by decide +kernel
theorem dX5_setTool_41 : decode cX5_setTool 41 = .ok (.getfield 7, 3) := by decide +kernel
theorem dX5_setTool_44 : decode cX5_setTool 44 = .ok (.iload_n 1, 1) := by decide +kernel
theorem dX5_setTool_45 : decode cX5_setTool 45 = .ok (.iload_n 2, 1) := by decide +kernel
theorem dX5_setTool_46 : decode cX5_setTool 46 = .ok (.iastore, 1) := by decide +kernel
theorem dX5_setTool_47 : decode cX5_setTool 47 = .ok (.aload_n 0, 1) := by decide +kernel
theorem dX5_setTool_48 : decode cX5_setTool 48 = .ok (.iconst 0, 1) := by decide +kernel
theorem dX5_setTool_49 : decode cX5_setTool 49 = .ok (.putfield 54, 3) := by decide +kernel
theorem dX5_setTool_52 : decode cX5_setTool 52 = .ok (.iload_n 3, 1) := by decide +kernel
theorem dX5_setTool_53 : decode cX5_setTool 53 = .ok (.ireturn, 1) := by decide +kernel
set_option maxRecDepth 20000 in
theorem ggX5_contact_X5_isPart : GoodIn wsX5_contact wsX5_isPart := goodIn_r _ [7, 8, 17, 18, 19, 20, 21, 22, 23, 24, 25, 26, 27, 28, 29, 30, 31, 32, 33, 34, 35] (by decide +kernel) (by decide +kernel)
set_option maxRecDepth 20000 in
theorem gX5_contact_X5_isPart : GoodIn wsX5_contact (wsV RX5 58 RX5 yX5_isPart wsX5_isPart) := goodIn_app (goodIn_of _ (by decide +kernel)) ggX5_contact_X5_isPart
set_option maxRecDepth 20000 in
theorem ggX5_contact_X5_holds : GoodIn wsX5_contact wsX5_holds := goodIn_r _ [12, 13, 17, 18, 19, 20, 21, 22, 23, 24, 25, 26, 27, 28, 29, 30, 31, 32, 33, 34, 35] (by decide +kernel) (by decide +kernel)
set_option maxRecDepth 20000 in
theorem gX5_contact_X5_holds : GoodIn wsX5_contact (wsV RX5 51 RX5 yX5_holds wsX5_holds) := goodIn_app (goodIn_of _ (by decide +kernel)) ggX5_contact_X5_holds
set_option maxRecDepth 20000 in
theorem ggX5_contact_X5_bits : GoodIn wsX5_contact wsX5_bits := goodIn_r _ [16] (by decide +kernel) (by decide +kernel)
set_option maxRecDepth 20000 in
theorem gX5_contact_X5_bits : GoodIn wsX5_contact (va_wsS RX5 61 yX5_bits wsX5_bits) := goodIn_app (goodIn_of _ (by decide +kernel)) ggX5_contact_X5_bits
theorem dX5_contact_0 : decode cX5_contact 0 = .ok (.aload_n 0, 1) := by decide +kernel
theorem dX5_contact_1 : decode cX5_contact 1 = .ok (.aload_n 0, 1) := by decide +kernel
theorem dX5_contact_2 : decode cX5_contact 2 = .ok (.iload_n 1, 1) := by decide +kernel
theorem dX5_contact_3 : decode cX5_contact 3 = .ok (.invokevirtual 58, 3) := by decide +kernel
theorem dX5_contact_6 : decode cX5_contact 6 = .ok (.ifCond .eq 11, 3) := by decide +kernel
theorem dX5_contact_9 : decode cX5_contact 9 = .ok (.aload_n 0, 1) := by decide +kernel
theorem dX5_contact_10 : decode cX5_contact 10 = .ok (.iload_n 2, 1) := by decide +kernel
theorem dX5_contact_11 : decode cX5_contact 11 = .ok (.invokevirtual 58, 3) := by decide +kernel
theorem dX5_contact_14 : decode cX5_contact 14 = .ok (.ifCond .ne 7, 3) := by decide +kernel
theorem dX5_contact_17 : decode cX5_contact 17 = .ok (.iconst 1, 1) := by decide +kernel
theorem dX5_contact_18 : decode cX5_contact 18 = .ok (.goto 13, 3) := by decide +kernel
theorem dX5_contact_21 : decode cX5_contact 21 = .ok (.iload_n 1, 1) := by decide +kernel
theorem dX5_contact_22 : decode cX5_contact 22 = .ok (.iload_n 2, 1) := by decide +kernel
theorem dX5_contact_23 : decode cX5_contact 23 = .ok (.if_icmp .ne 7, 3) := by decide +kernel
theorem dX5_contact_26 : decode cX5_contact 26 = .ok (.iconst 2, 1) := by decide +kernel
theorem dX5_contact_27 : decode cX5_contact 27 = .ok (.goto 4, 3) := by decide +kernel
theorem dX5_contact_30 : decode cX5_contact 30 = .ok (.iconst 0, 1) := by decide +kernel
theorem dX5_contact_31 : decode cX5_contact 31 = .ok (.invokevirtual 51, 3) := by decide +kernel
theorem dX5_contact_34 : decode cX5_contact 34 = .ok (.ifCond .ne 5, 3) := by decide +kernel
theorem dX5_contact_37 : decode cX5_contact 37 = .ok (.iconst 0, 1) := by decide +kernel
theorem dX5_contact_38 : decode cX5_contact 38 = .ok (.ireturn, 1) := by decide +kernel
theorem dX5_contact_39 : decode cX5_contact 39 = .ok (.aload_n 0, 1) := by decide +kernel
theorem dX5_contact_40 : decode cX5_contact 40 = .ok (.getfield 13, 3) := by decide +kernel
theorem dX5_contact_43 : decode cX5_contact 43 = .ok (.iload_n 1, 1) := by decide +kernel
theorem dX5_contact_44 : decode cX5_contact 44 = .ok (.aload_n 0, 1) := by decide +kernel
theorem dX5_contact_45 : decode cX5_contact 45 = .ok (.getfield 13, 3) := by decide +kernel
theorem dX5_contact_48 : decode cX5_contact 48 = .ok (.iload_n 1, 1) := by decide +kernel
theorem dX5_contact_49 : decode cX5_contact 49 = .ok (.iaload, 1) := by decide +kernel
theorem dX5_contact_50 : decode cX5_contact 50 = .ok (.iconst 1, 1) := by decide +kernel
theorem dX5_contact_51 : decode cX5_contact 51 = .ok (.iload_n 2, 1) := by decide +kernel
theorem dX5_contact_52 : decode cX5_contact 52 = .ok (.ishl, 1) := by decide +kernel
theorem dX5_contact_53 : decode cX5_contact 53 = .ok (.iconst (-1), 1) := by decide +kernel
theorem dX5_contact_54 : decode cX5_contact 54 = .ok (.ixor, 1) := by decide +kernel
theorem dX5_contact_55 : decode cX5_contact 55 = .ok (.iand, 1) := by decide +kernel
theorem dX5_contact_56 : decode cX5_contact 56 = .ok (.iload_n 3, 1) := by decide +kernel
theorem dX5_contact_57 : decode cX5_contact 57 = .ok (.ifCond .eq 9, 3) := by decide +kernel
theorem dX5_contact_60 : decode cX5_contact 60 = .ok (.iconst 1, 1) := by decide +kernel
theorem dX5_contact_61 : decode cX5_contact 61 = .ok (.iload_n 2, 1) := by decide +kernel
theorem dX5_contact_62 : decode cX5_contact 62 = .ok (.ishl, 1) := by decide +kernel
theorem dX5_contact_63 : decode cX5_contact 63 = .ok (.goto 4, 3) := by decide +kernel
theorem dX5_contact_66 : decode cX5_contact 66 = .ok (.iconst 0, 1) := by decide +kernel
theorem dX5_contact_67 : decode cX5_contact 67 = .ok (.ior, 1) := by decide +kernel
theorem dX5_contact_68 : decode cX5_contact 68 = .ok (.iastore, 1) := by decide +kernel
theorem dX5_contact_69 : decode cX5_contact 69 = .ok (.aload_n 0, 1) := by decide +kernel
theorem dX5_contact_70 : decode cX5_contact 70 = .ok (.getfield 13, 3) := by decide +kernel
theorem dX5_contact_73 : decode cX5_contact 73 = .ok (.iload_n 2, 1) := by decide +kernel
theorem dX5_contact_74 : decode cX5_contact 74 = .ok (.aload_n 0, 1) := by decide +kernel
theorem dX5_contact_75 : decode cX5_contact 75 = .ok (.getfield 13, 3) := by decide +kernel
theorem dX5_contact_78 : decode cX5_contact 78 = .ok (.iload_n 2, 1) := by decide +kernel
theorem dX5_contact_79 : decode cX5_contact 79 = .ok (.iaload, 1) := by decide +kernel
theorem dX5_contact_80 : decode cX5_contact 80 = .ok (.iconst 1, 1) := by decide +kernel
theorem dX5_contact_81 : decode cX5_contact 81 = .ok (.iload_n 1, 1) := by decide +kernel
theorem dX5_contact_82 : decode cX5_contact 82 = .ok (.ishl, 1) := by decide +kernel
theorem dX5_contact_83 : decode cX5_contact 83 = .ok (.iconst (-1), 1) := by decide +kernel
theorem dX5_contact_84 : decode cX5_contact 84 = .ok (.ixor, 1) := by decide +kernel
theorem dX5_contact_85 : decode cX5_contact 85 = .ok (.iand, 1) := by decide +kernel
theorem dX5_contact_86 : decode cX5_contact 86 = .ok (.iload_n 3, 1) := by decide +kernel
theorem dX5_contact_87 : decode cX5_contact 87 = .ok (.ifCond .eq 9, 3) := by decide +kernel
theorem dX5_contact_90 : decode cX5_contact 90 = .ok (.iconst 1, 1) := by decide +kernel
theorem dX5_contact_91 : decode cX5_contact 91 = .ok (.iload_n 1, 1) := by decide +kernel
theorem dX5_contact_92 : decode cX5_contact 92 = .ok (.ishl, 1) := by decide +kernel
theorem dX5_contact_93 : decode cX5_contact 93 = .ok (.goto 4, 3) := by decide +kernel
theorem dX5_contact_96 : decode cX5_contact 96 = .ok (.iconst 0, 1) := by decide +kernel
theorem dX5_contact_97 : decode cX5_contact 97 = .ok (.ior, 1) := by decide +kernel
theorem dX5_contact_98 : decode cX5_contact 98 = .ok (.iastore, 1) := by decide +kernel
theorem dX5_contact_99 : decode cX5_contact 99 = .ok (.aload_n 0, 1) := by decide +kernel
theorem dX5_contact_100 : decode cX5_contact 100 = .ok (.iconst 0, 1) := by decide +kernel
theorem dX5_contact_101 : decode cX5_contact 101 = .ok (.putfield 54, 3) := by decide +kernel
theorem dX5_contact_104 : decode cX5_contact 104 = .ok (.aload_n 0, 1) := by decide +kernel
theorem dX5_contact_105 : decode cX5_contact 105 = .ok (.getfield 13, 3) := by decide +kernel
theorem dX5_contact_108 : decode cX5_contact 108 = .ok (.iload_n 1, 1) := by decide +kernel
theorem dX5_contact_109 : decode cX5_contact 109 = .ok (.iaload, 1) := by decide +kernel
theorem dX5_contact_110 : decode cX5_contact 110 = .ok (.invokestatic 61, 3) := by decide +kernel
theorem dX5_contact_113 : decode cX5_contact 113 = .ok (.ireturn, 1) := by decide +kernel
set_option maxRecDepth 20000 in
theorem ggX5_hinder_X5_isPart : GoodIn wsX5_hinder wsX5_isPart := goodIn_r _ [7, 8, 20, 21, 22, 23, 24, 25, 26, 27, 28, 29, 30, 31, 32, 33, 34, 35, 36, 37, 38] (by decide +kernel) (by decide +kernel)
set_option maxRecDepth 20000 in
theorem gX5_hinder_X5_isPart : GoodIn wsX5_hinder (wsV RX5 58 RX5 yX5_isPart wsX5_isPart) := goodIn_app (goodIn_of _ (by decide +kernel)) ggX5_hinder_X5_isPart
set_option maxRecDepth 20000 in
theorem ggX5_hinder_X5_isDirection : GoodIn wsX5_hinder wsX5_isDirection := goodIn_r _ [11] (by decide +kernel) (by decide +kernel)
set_option maxRecDepth 20000 in
theorem gX5_hinder_X5_isDirection : GoodIn wsX5_hinder (va_wsS RX5 65 yX5_isDirection wsX5_isDirection) := goodIn_app (goodIn_of _ (by decide +kernel)) ggX5_hinder_X5_isDirection
set_option maxRecDepth 20000 in
theorem ggX5_hinder_X5_holds : GoodIn wsX5_hinder wsX5_holds := goodIn_r _ [15, 16, 20, 21, 22, 23, 24, 25, 26, 27, 28, 29, 30, 31, 32, 33, 34, 35, 36, 37, 38] (by decide +kernel) (by decide +kernel)
set_option maxRecDepth 20000 in
theorem gX5_hinder_X5_holds : GoodIn wsX5_hinder (wsV RX5 51 RX5 yX5_holds wsX5_holds) := goodIn_app (goodIn_of _ (by decide +kernel)) ggX5_hinder_X5_holds
set_option maxRecDepth 20000 in
theorem ggX5_hinder_X5_bits : GoodIn wsX5_hinder wsX5_bits := goodIn_r _ [19] (by decide +kernel) (by decide +kernel)
set_option maxRecDepth 20000 in
theorem gX5_hinder_X5_bits : GoodIn wsX5_hinder (va_wsS RX5 61 yX5_bits wsX5_bits) := goodIn_app (goodIn_of _ (by decide +kernel)) ggX5_hinder_X5_bits
theorem dX5_hinder_0 : decode cX5_hinder 0 = .ok (.aload_n 0, 1) := by decide +kernel
theorem dX5_hinder_1 : decode cX5_hinder 1 = .ok (.iload_n 1, 1) := by decide +kernel
theorem dX5_hinder_2 : decode cX5_hinder 2 = .ok (.invokevirtual 58, 3) := by decide +kernel
theorem dX5_hinder_5 : decode cX5_hinder 5 = .ok (.ifCond .eq 22, 3) := by decide +kernel
theorem dX5_hinder_8 : decode cX5_hinder 8 = .ok (.aload_n 0, 1) := by decide +kernel
theorem dX5_hinder_9 : decode cX5_hinder 9 = .ok (.iload_n 3, 1) := by decide +kernel
theorem dX5_hinder_10 : decode cX5_hinder 10 = .ok (.invokevirtual 58, 3) := by decide +kernel
theorem dX5_hinder_13 : decode cX5_hinder 13 = .ok (.ifCond .eq 14, 3) := by decide +kernel
theorem dX5_hinder_16 : decode cX5_hinder 16 = .ok (.iload_n 2, 1) := by decide +kernel
theorem dX5_hinder_17 : decode cX5_hinder 17 = .ok (.invokestatic 65, 3) := by decide +kernel
theorem dX5_hinder_20 : decode cX5_hinder 20 = .ok (.ifCond .eq 7, 3) := by decide +kernel
theorem dX5_hinder_23 : decode cX5_hinder 23 = .ok (.iconst 1, 1) := by decide +kernel
theorem dX5_hinder_24 : decode cX5_hinder 24 = .ok (.goto 4, 3) := by decide +kernel
theorem dX5_hinder_27 : decode cX5_hinder 27 = .ok (.iconst 0, 1) := by decide +kernel
theorem dX5_hinder_28 : decode cX5_hinder 28 = .ok (.istore 5, 2) := by decide +kernel
theorem dX5_hinder_30 : decode cX5_hinder 30 = .ok (.aload_n 0, 1) := by decide +kernel
theorem dX5_hinder_31 : decode cX5_hinder 31 = .ok (.iload 5, 2) := by decide +kernel
theorem dX5_hinder_33 : decode cX5_hinder 33 = .ok (.ifCond .ne 7, 3) := by decide +kernel
theorem dX5_hinder_36 : decode cX5_hinder 36 = .ok (.iconst 1, 1) := by decide +kernel
theorem dX5_hinder_37 : decode cX5_hinder 37 = .ok (.goto 13, 3) := by decide +kernel
theorem dX5_hinder_40 : decode cX5_hinder 40 = .ok (.iload_n 1, 1) := by decide +kernel
theorem dX5_hinder_41 : decode cX5_hinder 41 = .ok (.iload_n 3, 1) := by decide +kernel
theorem dX5_hinder_42 : decode cX5_hinder 42 = .ok (.if_icmp .ne 7, 3) := by decide +kernel
theorem dX5_hinder_45 : decode cX5_hinder 45 = .ok (.iconst 2, 1) := by decide +kernel
theorem dX5_hinder_46 : decode cX5_hinder 46 = .ok (.goto 4, 3) := by decide +kernel
theorem dX5_hinder_49 : decode cX5_hinder 49 = .ok (.iconst 0, 1) := by decide +kernel
theorem dX5_hinder_50 : decode cX5_hinder 50 = .ok (.invokevirtual 51, 3) := by decide +kernel
theorem dX5_hinder_53 : decode cX5_hinder 53 = .ok (.ifCond .ne 5, 3) := by decide +kernel
theorem dX5_hinder_56 : decode cX5_hinder 56 = .ok (.iconst 0, 1) := by decide +kernel
theorem dX5_hinder_57 : decode cX5_hinder 57 = .ok (.ireturn, 1) := by decide +kernel
theorem dX5_hinder_58 : decode cX5_hinder 58 = .ok (.bipush 8, 2) := by decide +kernel
theorem dX5_hinder_60 : decode cX5_hinder 60 = .ok (.iload_n 2, 1) := by decide +kernel
theorem dX5_hinder_61 : decode cX5_hinder 61 = .ok (.imul, 1) := by decide +kernel
theorem dX5_hinder_62 : decode cX5_hinder 62 = .ok (.iload_n 1, 1) := by decide +kernel
theorem dX5_hinder_63 : decode cX5_hinder 63 = .ok (.iadd, 1) := by decide +kernel
theorem dX5_hinder_64 : decode cX5_hinder 64 = .ok (.istore 6, 2) := by decide +kernel
theorem dX5_hinder_66 : decode cX5_hinder 66 = .ok (.bipush 8, 2) := by decide +kernel
theorem dX5_hinder_68 : decode cX5_hinder 68 = .ok (.iload_n 2, 1) := by decide +kernel
theorem dX5_hinder_69 : decode cX5_hinder 69 = .ok (.iconst 1, 1) := by decide +kernel
theorem dX5_hinder_70 : decode cX5_hinder 70 = .ok (.ixor, 1) := by decide +kernel
theorem dX5_hinder_71 : decode cX5_hinder 71 = .ok (.imul, 1) := by decide +kernel
theorem dX5_hinder_72 : decode cX5_hinder 72 = .ok (.iload_n 3, 1) := by decide +kernel
theorem dX5_hinder_73 : decode cX5_hinder 73 = .ok (.iadd, 1) := by decide +kernel
theorem dX5_hinder_74 : decode cX5_hinder 74 = .ok (.istore 7, 2) := by decide +kernel
theorem dX5_hinder_76 : decode cX5_hinder 76 = .ok (.aload_n 0, 1) := by decide +kernel
theorem dX5_hinder_77 : decode cX5_hinder 77 = .ok (.getfield 16, 3) := by decide +kernel
theorem dX5_hinder_80 : decode cX5_hinder 80 = .ok (.iload 6, 2) := by decide +kernel
theorem dX5_hinder_82 : decode cX5_hinder 82 = .ok (.aload_n 0, 1) := by decide +kernel
theorem dX5_hinder_83 : decode cX5_hinder 83 = .ok (.getfield 16, 3) := by decide +kernel
theorem dX5_hinder_86 : decode cX5_hinder 86 = .ok (.iload 6, 2) := by decide +kernel
theorem dX5_hinder_88 : decode cX5_hinder 88 = .ok (.iaload, 1) := by decide +kernel
theorem dX5_hinder_89 : decode cX5_hinder 89 = .ok (.iconst 1, 1) := by decide +kernel
theorem dX5_hinder_90 : decode cX5_hinder 90 = .ok (.iload_n 3, 1) := by decide +kernel
theorem dX5_hinder_91 : decode cX5_hinder 91 = .ok (.ishl, 1) := by decide +kernel
theorem dX5_hinder_92 : decode cX5_hinder 92 = .ok (.iconst (-1), 1) := by decide +kernel
theorem dX5_hinder_93 : decode cX5_hinder 93 = .ok (.ixor, 1) := by decide +kernel
theorem dX5_hinder_94 : decode cX5_hinder 94 = .ok (.iand, 1) := by decide +kernel
theorem dX5_hinder_95 : decode cX5_hinder 95 = .ok (.iload 4, 2) := by decide +kernel
theorem dX5_hinder_97 : decode cX5_hinder 97 = .ok (.ifCond .eq 9, 3) := by decide +kernel
theorem dX5_hinder_100 : decode cX5_hinder 100 = .ok (.iconst 1, 1) := by decide +kernel
theorem dX5_hinder_101 : decode cX5_hinder 101 = .ok (.iload_n 3, 1) := by decide +kernel
theorem dX5_hinder_102 : decode cX5_hinder 102 = .ok (.ishl, 1) := by decide +kernel
theorem dX5_hinder_103 : decode cX5_hinder 103 = .ok (.goto 4, 3) := by decide +kernel
theorem dX5_hinder_106 : decode cX5_hinder 106 = .ok (.iconst 0, 1) := by decide +kernel
theorem dX5_hinder_107 : decode cX5_hinder 107 = .ok (.ior, 1) := by decide +kernel
theorem dX5_hinder_108 : decode cX5_hinder 108 = .ok (.iastore, 1) := by decide +kernel
theorem dX5_hinder_109 : decode cX5_hinder 109 = .ok (.aload_n 0, 1) := by decide +kernel
theorem dX5_hinder_110 : decode cX5_hinder 110 = .ok (.getfield 16, 3) := by decide +kernel
theorem dX5_hinder_113 : decode cX5_hinder 113 = .ok (.iload 7, 2) := by decide +kernel
theorem dX5_hinder_115 : decode cX5_hinder 115 = .ok (.aload_n 0, 1) := by decide +kernel
theorem dX5_hinder_116 : decode cX5_hinder 116 = .ok (.getfield 16, 3) := by decide +kernel
theorem dX5_hinder_119 : decode cX5_hinder 119 = .ok (.iload 7, 2) := by decide +kernel
theorem dX5_hinder_121 : decode cX5_hinder 121 = .ok (.iaload, 1) := by decide +kernel
theorem dX5_hinder_122 : decode cX5_hinder 122 = .ok (.iconst 1, 1) := by decide +kernel
theorem dX5_hinder_123 : decode cX5_hinder 123 = .ok (.iload_n 1, 1) := by decide +kernel
theorem dX5_hinder_124 : decode cX5_hinder 124 = .ok (.ishl, 1) := by decide +kernel
theorem dX5_hinder_125 : decode cX5_hinder 125 = .ok (.iconst (-1), 1) := by decide +kernel
theorem dX5_hinder_126 : decode cX5_hinder 126 = .ok (.ixor, 1) := by decide +kernel
theorem dX5_hinder_127 : decode cX5_hinder 127 = .ok (.iand, 1) := by decide +kernel
theorem dX5_hinder_128 : decode cX5_hinder 128 = .ok (.iload 4, 2) := by decide +kernel
theorem dX5_hinder_130 : decode cX5_hinder 130 = .ok (.ifCond .eq 9, 3) := by decide +kernel
theorem dX5_hinder_133 : decode cX5_hinder 133 = .ok (.iconst 1, 1) := by decide +kernel
theorem dX5_hinder_134 : decode cX5_hinder 134 = .ok (.iload_n 1, 1) := by decide +kernel
theorem dX5_hinder_135 : decode cX5_hinder 135 = .ok (.ishl, 1) := by decide +kernel
theorem dX5_hinder_136 : decode cX5_hinder 136 = .ok (.goto 4, 3) := by decide +kernel
theorem dX5_hinder_139 : decode cX5_hinder 139 = .ok (.iconst 0, 1) := by decide +kernel
theorem dX5_hinder_140 : decode cX5_hinder 140 = .ok (.ior, 1) := by decide +kernel
theorem dX5_hinder_141 : decode cX5_hinder 141 = .ok (.iastore, 1) := by decide +kernel
theorem dX5_hinder_142 : decode cX5_hinder 142 = .ok (.aload_n 0, 1) := by decide +kernel
theorem dX5_hinder_143 : decode cX5_hinder 143 = .ok (.iconst 0, 1) := by decide +kernel
theorem dX5_hinder_144 : decode cX5_hinder 144 = .ok (.putfield 54, 3) := by decide +kernel
theorem dX5_hinder_147 : decode cX5_hinder 147 = .ok (.aload_n 0, 1) := by decide +kernel
theorem dX5_hinder_148 : decode cX5_hinder 148 = .ok (.getfield 16, 3) := by decide +kernel
theorem dX5_hinder_151 : decode cX5_hinder 151 = .ok (.iload 6, 2) := by decide +kernel
theorem dX5_hinder_153 : decode cX5_hinder 153 = .ok (.iaload, 1) := by decide +kernel
theorem dX5_hinder_154 : decode cX5_hinder 154 = .ok (.invokestatic 61, 3) := by decide +kernel
theorem dX5_hinder_157 : decode cX5_hinder 157 = .ok (.ireturn, 1) := by decide +kernel
set_option maxRecDepth 20000 in
theorem ggX5_setBase_X5_isPart : GoodIn wsX5_setBase wsX5_isPart := goodIn_r _ [7, 8, 14, 15, 16, 17, 18, 19, 20, 21, 22, 23, 24, 25, 26, 27, 28, 29, 30, 31, 32] (by decide +kernel) (by decide +kernel)
set_option maxRecDepth 20000 in
theorem gX5_setBase_X5_isPart : GoodIn wsX5_setBase (wsV RX5 58 RX5 yX5_isPart wsX5_isPart) := goodIn_app (goodIn_of _ (by decide +kernel)) ggX5_setBase_X5_isPart
set_option maxRecDepth 20000 in
theorem ggX5_setBase_X5_holds : GoodIn wsX5_setBase wsX5_holds := goodIn_r _ [12, 13, 14, 15, 16, 17, 18, 19, 20, 21, 22, 23, 24, 25, 26, 27, 28, 29, 30, 31, 32] (by decide +kernel) (by decide +kernel)
set_option maxRecDepth 20000 in
theorem gX5_setBase_X5_holds : GoodIn wsX5_setBase (wsV RX5 51 RX5 yX5_holds wsX5_holds) := goodIn_app (goodIn_of _ (by decide +kernel)) ggX5_setBase_X5_holds
theorem dX5_setBase_0 : decode cX5_setBase 0 = .ok (.aload_n 0, 1) := by decide +kernel
theorem dX5_setBase_1 : decode cX5_setBase 1 = .ok (.aload_n 0, 1) := by decide +kernel
theorem dX5_setBase_2 : decode cX5_setBase 2 = .ok (.iload_n 1, 1) := by decide +kernel
theorem dX5_setBase_3 : decode cX5_setBase 3 = .ok (.invokevirtual 58, 3) := by decide +kernel
theorem dX5_setBase_6 : decode cX5_setBase 6 = .ok (.ifCond .eq 7, 3) := by decide +kernel
theorem dX5_setBase_9 : decode cX5_setBase 9 = .ok (.iconst 0, 1) := by decide +kernel
theorem dX5_setBase_10 : decode cX5_setBase 10 = .ok (.goto 4, 3) := by decide +kernel
theorem dX5_setBase_13 : decode cX5_setBase 13 = .ok (.iconst 1, 1) := by decide +kernel
theorem dX5_setBase_14 : decode cX5_setBase 14 = .ok (.invokevirtual 51, 3) := by decide +kernel
theorem dX5_setBase_17 : decode cX5_setBase 17 = .ok (.ifCond .ne 5, 3) := by decide +kernel
theorem dX5_setBase_20 : decode cX5_setBase 20 = .ok (.iconst 0, 1) := by decide +kernel
theorem dX5_setBase_21 : decode cX5_setBase 21 = .ok (.ireturn, 1) := by decide +kernel
theorem dX5_setBase_22 : decode cX5_setBase 22 = .ok (.aload_n 0, 1) := by decide +kernel
theorem dX5_setBase_23 : decode cX5_setBase 23 = .ok (.getfield 68, 3) := by decide +kernel
theorem dX5_setBase_26 : decode cX5_setBase 26 = .ok (.istore_n 2, 1) := by decide +kernel
theorem dX5_setBase_27 : decode cX5_setBase 27 = .ok (.aload_n 0, 1) := by decide +kernel
theorem dX5_setBase_28 : decode cX5_setBase 28 = .ok (.iload_n 1, 1) := by decide +kernel
theorem dX5_setBase_29 : decode cX5_setBase 29 = .ok (.putfield 68, 3) := by decide +kernel
theorem dX5_setBase_32 : decode cX5_setBase 32 = .ok (.aload_n 0, 1) := by decide +kernel
theorem dX5_setBase_33 : decode cX5_setBase 33 = .ok (.iconst 0, 1) := by decide +kernel
theorem dX5_setBase_34 : decode cX5_setBase 34 = .ok (.putfield 54, 3) := by decide +kernel
theorem dX5_setBase_37 : decode cX5_setBase 37 = .ok (.iload_n 2, 1) := by decide +kernel
theorem dX5_setBase_38 : decode cX5_setBase 38 = .ok (.ireturn, 1) := by decide +kernel
theorem dX5_askSteady_0 : decode cX5_askSteady 0 = .ok (.aload_n 0, 1) := by decide +kernel
theorem dX5_askSteady_1 : decode cX5_askSteady 1 = .ok (.iconst 0, 1) := by decide +kernel
theorem dX5_askSteady_2 : decode cX5_askSteady 2 = .ok (.putfield 40, 3) := by decide +kernel
theorem dX5_askSteady_5 : decode cX5_askSteady 5 = .ok (.aload_n 0, 1) := by decide +kernel
theorem dX5_askSteady_6 : decode cX5_askSteady 6 = .ok (.getfield 71, 3) := by decide +kernel
theorem dX5_askSteady_9 : decode cX5_askSteady 9 = .ok (.istore_n 2, 1) := by decide +kernel
theorem dX5_askSteady_10 : decode cX5_askSteady 10 = .ok (.aload_n 0, 1) := by decide +kernel
theorem dX5_askSteady_11 : decode cX5_askSteady 11 = .ok (.iload_n 1, 1) := by decide +kernel
theorem dX5_askSteady_12 : decode cX5_askSteady 12 = .ok (.putfield 71, 3) := by decide +kernel
theorem dX5_askSteady_15 : decode cX5_askSteady 15 = .ok (.aload_n 0, 1) := by decide +kernel
theorem dX5_askSteady_16 : decode cX5_askSteady 16 = .ok (.iconst 0, 1) := by decide +kernel
theorem dX5_askSteady_17 : decode cX5_askSteady 17 = .ok (.putfield 54, 3) := by decide +kernel
theorem dX5_askSteady_20 : decode cX5_askSteady 20 = .ok (.iload_n 2, 1) := by decide +kernel
theorem dX5_askSteady_21 : decode cX5_askSteady 21 = .ok (.ireturn, 1) := by decide +kernel
theorem dX5_parts_0 : decode cX5_parts 0 = .ok (.aload_n 0, 1) := by decide +kernel
theorem dX5_parts_1 : decode cX5_parts 1 = .ok (.iconst 0, 1) := by decide +kernel
theorem dX5_parts_2 : decode cX5_parts 2 = .ok (.putfield 40, 3) := by decide +kernel
theorem dX5_parts_5 : decode cX5_parts 5 = .ok (.aload_n 0, 1) := by decide +kernel
theorem dX5_parts_6 : decode cX5_parts 6 = .ok (.getfield 44, 3) := by decide +kernel
theorem dX5_parts_9 : decode cX5_parts 9 = .ok (.ireturn, 1) := by decide +kernel
set_option maxRecDepth 20000 in
theorem ggX5_isSet_X5_whole : GoodIn wsX5_isSet wsX5_whole := goodIn_r _ [5, 6, 7, 8, 9, 10, 11, 12, 13, 14, 15, 16, 17, 18, 19, 20, 21, 22, 23, 24, 25] (by decide +kernel) (by decide +kernel)
set_option maxRecDepth 20000 in
theorem gX5_isSet_X5_whole : GoodIn wsX5_isSet (wsV RX5 74 RX5 yX5_whole wsX5_whole) := goodIn_app (goodIn_of _ (by decide +kernel)) ggX5_isSet_X5_whole
theorem dX5_isSet_0 : decode cX5_isSet 0 = .ok (.iload_n 1, 1) := by decide +kernel
theorem dX5_isSet_1 : decode cX5_isSet 1 = .ok (.ifCond .le 15, 3) := by decide +kernel
theorem dX5_isSet_4 : decode cX5_isSet 4 = .ok (.iload_n 1, 1) := by decide +kernel
theorem dX5_isSet_5 : decode cX5_isSet 5 = .ok (.aload_n 0, 1) := by decide +kernel
theorem dX5_isSet_6 : decode cX5_isSet 6 = .ok (.invokevirtual 74, 3) := by decide +kernel
theorem dX5_isSet_9 : decode cX5_isSet 9 = .ok (.if_icmp .gt 7, 3) := by decide +kernel
theorem dX5_isSet_12 : decode cX5_isSet 12 = .ok (.iconst 1, 1) := by decide +kernel
theorem dX5_isSet_13 : decode cX5_isSet 13 = .ok (.goto 4, 3) := by decide +kernel
theorem dX5_isSet_16 : decode cX5_isSet 16 = .ok (.iconst 0, 1) := by decide +kernel
theorem dX5_isSet_17 : decode cX5_isSet 17 = .ok (.ireturn, 1) := by decide +kernel
theorem dX5_reached_0 : decode cX5_reached 0 = .ok (.iconst 0, 1) := by decide +kernel
theorem dX5_reached_1 : decode cX5_reached 1 = .ok (.istore_n 3, 1) := by decide +kernel
theorem dX5_reached_2 : decode cX5_reached 2 = .ok (.iload_n 2, 1) := by decide +kernel
theorem dX5_reached_3 : decode cX5_reached 3 = .ok (.istore 4, 2) := by decide +kernel
theorem dX5_reached_5 : decode cX5_reached 5 = .ok (.iload_n 3, 1) := by decide +kernel
theorem dX5_reached_6 : decode cX5_reached 6 = .ok (.iload 4, 2) := by decide +kernel
theorem dX5_reached_8 : decode cX5_reached 8 = .ok (.if_icmp .eq 55, 3) := by decide +kernel
theorem dX5_reached_11 : decode cX5_reached 11 = .ok (.iload 4, 2) := by decide +kernel
theorem dX5_reached_13 : decode cX5_reached 13 = .ok (.istore_n 3, 1) := by decide +kernel
theorem dX5_reached_14 : decode cX5_reached 14 = .ok (.iconst 0, 1) := by decide +kernel
theorem dX5_reached_15 : decode cX5_reached 15 = .ok (.istore 5, 2) := by decide +kernel
theorem dX5_reached_17 : decode cX5_reached 17 = .ok (.iload 5, 2) := by decide +kernel
theorem dX5_reached_19 : decode cX5_reached 19 = .ok (.aload_n 0, 1) := by decide +kernel
theorem dX5_reached_20 : decode cX5_reached 20 = .ok (.getfield 44, 3) := by decide +kernel
theorem dX5_reached_23 : decode cX5_reached 23 = .ok (.if_icmp .ge 37, 3) := by decide +kernel
theorem dX5_reached_26 : decode cX5_reached 26 = .ok (.iload 4, 2) := by decide +kernel
theorem dX5_reached_28 : decode cX5_reached 28 = .ok (.iload_n 3, 1) := by decide +kernel
theorem dX5_reached_29 : decode cX5_reached 29 = .ok (.iload 5, 2) := by decide +kernel
theorem dX5_reached_31 : decode cX5_reached 31 = .ok (.ishr, 1) := by decide +kernel
theorem dX5_reached_32 : decode cX5_reached 32 = .ok (.iconst 1, 1) := by decide +kernel
theorem dX5_reached_33 : decode cX5_reached 33 = .ok (.iand, 1) := by decide +kernel
theorem dX5_reached_34 : decode cX5_reached 34 = .ok (.iconst 1, 1) := by decide +kernel
theorem dX5_reached_35 : decode cX5_reached 35 = .ok (.if_icmp .ne 15, 3) := by decide +kernel
theorem dX5_reached_38 : decode cX5_reached 38 = .ok (.aload_n 0, 1) := by decide +kernel
theorem dX5_reached_39 : decode cX5_reached 39 = .ok (.getfield 13, 3) := by decide +kernel
theorem dX5_reached_42 : decode cX5_reached 42 = .ok (.iload 5, 2) := by decide +kernel
theorem dX5_reached_44 : decode cX5_reached 44 = .ok (.iaload, 1) := by decide +kernel
theorem dX5_reached_45 : decode cX5_reached 45 = .ok (.iload_n 1, 1) := by decide +kernel
theorem dX5_reached_46 : decode cX5_reached 46 = .ok (.iand, 1) := by decide +kernel
theorem dX5_reached_47 : decode cX5_reached 47 = .ok (.goto 4, 3) := by decide +kernel
theorem dX5_reached_50 : decode cX5_reached 50 = .ok (.iconst 0, 1) := by decide +kernel
theorem dX5_reached_51 : decode cX5_reached 51 = .ok (.ior, 1) := by decide +kernel
theorem dX5_reached_52 : decode cX5_reached 52 = .ok (.istore 4, 2) := by decide +kernel
theorem dX5_reached_54 : decode cX5_reached 54 = .ok (.iinc 5 1, 3) := by decide +kernel
theorem dX5_reached_57 : decode cX5_reached 57 = .ok (.goto (-40), 3) := by decide +kernel
theorem dX5_reached_60 : decode cX5_reached 60 = .ok (.goto (-55), 3) := by decide +kernel
theorem dX5_reached_63 : decode cX5_reached 63 = .ok (.iload 4, 2) := by decide +kernel
theorem dX5_reached_65 : decode cX5_reached 65 = .ok (.ireturn, 1) := by decide +kernel
set_option maxRecDepth 20000 in
theorem ggX5_hangsTogether_X5_reached : GoodIn wsX5_hangsTogether wsX5_reached := goodIn_r _ [5, 6, 7, 8, 9, 10, 11, 12, 13, 14, 15, 16, 17, 18, 19, 20, 21, 22, 23, 24, 25, 26] (by decide +kernel) (by decide +kernel)
set_option maxRecDepth 20000 in
theorem gX5_hangsTogether_X5_reached : GoodIn wsX5_hangsTogether (wsV RX5 78 RX5 yX5_reached wsX5_reached) := goodIn_app (goodIn_of _ (by decide +kernel)) ggX5_hangsTogether_X5_reached
theorem dX5_hangsTogether_0 : decode cX5_hangsTogether 0 = .ok (.iload_n 1, 1) := by decide +kernel
theorem dX5_hangsTogether_1 : decode cX5_hangsTogether 1 = .ok (.ifCond .eq 20, 3) := by decide +kernel
theorem dX5_hangsTogether_4 : decode cX5_hangsTogether 4 = .ok (.aload_n 0, 1) := by decide +kernel
theorem dX5_hangsTogether_5 : decode cX5_hangsTogether 5 = .ok (.iload_n 1, 1) := by decide +kernel
theorem dX5_hangsTogether_6 : decode cX5_hangsTogether 6 = .ok (.iload_n 1, 1) := by decide +kernel
theorem dX5_hangsTogether_7 : decode cX5_hangsTogether 7 = .ok (.iload_n 1, 1) := by decide +kernel
theorem dX5_hangsTogether_8 : decode cX5_hangsTogether 8 = .ok (.ineg, 1) := by decide +kernel
theorem dX5_hangsTogether_9 : decode cX5_hangsTogether 9 = .ok (.iand, 1) := by decide +kernel
theorem dX5_hangsTogether_10 : decode cX5_hangsTogether 10 = .ok (.invokevirtual 78, 3) := by decide +kernel
theorem dX5_hangsTogether_13 : decode cX5_hangsTogether 13 = .ok (.iload_n 1, 1) := by decide +kernel
theorem dX5_hangsTogether_14 : decode cX5_hangsTogether 14 = .ok (.if_icmp .ne 7, 3) := by decide +kernel
theorem dX5_hangsTogether_17 : decode cX5_hangsTogether 17 = .ok (.iconst 1, 1) := by decide +kernel
theorem dX5_hangsTogether_18 : decode cX5_hangsTogether 18 = .ok (.goto 4, 3) := by decide +kernel
theorem dX5_hangsTogether_21 : decode cX5_hangsTogether 21 = .ok (.iconst 0, 1) := by decide +kernel
theorem dX5_hangsTogether_22 : decode cX5_hangsTogether 22 = .ok (.ireturn, 1) := by decide +kernel
theorem dX5_isHeld_0 : decode cX5_isHeld 0 = .ok (.iconst (-1), 1) := by decide +kernel
theorem dX5_isHeld_1 : decode cX5_isHeld 1 = .ok (.istore_n 2, 1) := by decide +kernel
theorem dX5_isHeld_2 : decode cX5_isHeld 2 = .ok (.iload_n 1, 1) := by decide +kernel
theorem dX5_isHeld_3 : decode cX5_isHeld 3 = .ok (.iconst 1, 1) := by decide +kernel
theorem dX5_isHeld_4 : decode cX5_isHeld 4 = .ok (.aload_n 0, 1) := by decide +kernel
theorem dX5_isHeld_5 : decode cX5_isHeld 5 = .ok (.getfield 68, 3) := by decide +kernel
theorem dX5_isHeld_8 : decode cX5_isHeld 8 = .ok (.ishl, 1) := by decide +kernel
theorem dX5_isHeld_9 : decode cX5_isHeld 9 = .ok (.iand, 1) := by decide +kernel
theorem dX5_isHeld_10 : decode cX5_isHeld 10 = .ok (.istore_n 3, 1) := by decide +kernel
theorem dX5_isHeld_11 : decode cX5_isHeld 11 = .ok (.iload_n 2, 1) := by decide +kernel
theorem dX5_isHeld_12 : decode cX5_isHeld 12 = .ok (.iload_n 3, 1) := by decide +kernel
theorem dX5_isHeld_13 : decode cX5_isHeld 13 = .ok (.if_icmp .eq 74, 3) := by decide +kernel
theorem dX5_isHeld_16 : decode cX5_isHeld 16 = .ok (.iload_n 3, 1) := by decide +kernel
theorem dX5_isHeld_17 : decode cX5_isHeld 17 = .ok (.istore_n 2, 1) := by decide +kernel
theorem dX5_isHeld_18 : decode cX5_isHeld 18 = .ok (.iconst 0, 1) := by decide +kernel
theorem dX5_isHeld_19 : decode cX5_isHeld 19 = .ok (.istore 4, 2) := by decide +kernel
theorem dX5_isHeld_21 : decode cX5_isHeld 21 = .ok (.iload 4, 2) := by decide +kernel
theorem dX5_isHeld_23 : decode cX5_isHeld 23 = .ok (.aload_n 0, 1) := by decide +kernel
theorem dX5_isHeld_24 : decode cX5_isHeld 24 = .ok (.getfield 44, 3) := by decide +kernel
theorem dX5_isHeld_27 : decode cX5_isHeld 27 = .ok (.if_icmp .ge 57, 3) := by decide +kernel
theorem dX5_isHeld_30 : decode cX5_isHeld 30 = .ok (.iload_n 1, 1) := by decide +kernel
theorem dX5_isHeld_31 : decode cX5_isHeld 31 = .ok (.iload 4, 2) := by decide +kernel
theorem dX5_isHeld_33 : decode cX5_isHeld 33 = .ok (.ishr, 1) := by decide +kernel
theorem dX5_isHeld_34 : decode cX5_isHeld 34 = .ok (.iconst 1, 1) := by decide +kernel
theorem dX5_isHeld_35 : decode cX5_isHeld 35 = .ok (.iand, 1) := by decide +kernel
theorem dX5_isHeld_36 : decode cX5_isHeld 36 = .ok (.iconst 1, 1) := by decide +kernel
theorem dX5_isHeld_37 : decode cX5_isHeld 37 = .ok (.if_icmp .ne 22, 3) := by decide +kernel
theorem dX5_isHeld_40 : decode cX5_isHeld 40 = .ok (.aload_n 0, 1) := by decide +kernel
theorem dX5_isHeld_41 : decode cX5_isHeld 41 = .ok (.getfield 16, 3) := by decide +kernel
theorem dX5_isHeld_44 : decode cX5_isHeld 44 = .ok (.bipush 40, 2) := by decide +kernel
theorem dX5_isHeld_46 : decode cX5_isHeld 46 = .ok (.iload 4, 2) := by decide +kernel
theorem dX5_isHeld_48 : decode cX5_isHeld 48 = .ok (.iadd, 1) := by decide +kernel
theorem dX5_isHeld_49 : decode cX5_isHeld 49 = .ok (.iaload, 1) := by decide +kernel
theorem dX5_isHeld_50 : decode cX5_isHeld 50 = .ok (.iload_n 2, 1) := by decide +kernel
theorem dX5_isHeld_51 : decode cX5_isHeld 51 = .ok (.iand, 1) := by decide +kernel
theorem dX5_isHeld_52 : decode cX5_isHeld 52 = .ok (.ifCond .eq 7, 3) := by decide +kernel
theorem dX5_isHeld_55 : decode cX5_isHeld 55 = .ok (.iconst 1, 1) := by decide +kernel
theorem dX5_isHeld_56 : decode cX5_isHeld 56 = .ok (.goto 4, 3) := by decide +kernel
theorem dX5_isHeld_59 : decode cX5_isHeld 59 = .ok (.iconst 0, 1) := by decide +kernel
theorem dX5_isHeld_60 : decode cX5_isHeld 60 = .ok (.istore 5, 2) := by decide +kernel
theorem dX5_isHeld_62 : decode cX5_isHeld 62 = .ok (.iload_n 3, 1) := by decide +kernel
theorem dX5_isHeld_63 : decode cX5_isHeld 63 = .ok (.iload 5, 2) := by decide +kernel
theorem dX5_isHeld_65 : decode cX5_isHeld 65 = .ok (.ifCond .eq 10, 3) := by decide +kernel
theorem dX5_isHeld_68 : decode cX5_isHeld 68 = .ok (.iconst 1, 1) := by decide +kernel
theorem dX5_isHeld_69 : decode cX5_isHeld 69 = .ok (.iload 4, 2) := by decide +kernel
theorem dX5_isHeld_71 : decode cX5_isHeld 71 = .ok (.ishl, 1) := by decide +kernel
theorem dX5_isHeld_72 : decode cX5_isHeld 72 = .ok (.goto 4, 3) := by decide +kernel
theorem dX5_isHeld_75 : decode cX5_isHeld 75 = .ok (.iconst 0, 1) := by decide +kernel
theorem dX5_isHeld_76 : decode cX5_isHeld 76 = .ok (.ior, 1) := by decide +kernel
theorem dX5_isHeld_77 : decode cX5_isHeld 77 = .ok (.istore_n 3, 1) := by decide +kernel
theorem dX5_isHeld_78 : decode cX5_isHeld 78 = .ok (.iinc 4 1, 3) := by decide +kernel
theorem dX5_isHeld_81 : decode cX5_isHeld 81 = .ok (.goto (-60), 3) := by decide +kernel
theorem dX5_isHeld_84 : decode cX5_isHeld 84 = .ok (.goto (-73), 3) := by decide +kernel
theorem dX5_isHeld_87 : decode cX5_isHeld 87 = .ok (.iload_n 3, 1) := by decide +kernel
theorem dX5_isHeld_88 : decode cX5_isHeld 88 = .ok (.iload_n 1, 1) := by decide +kernel
theorem dX5_isHeld_89 : decode cX5_isHeld 89 = .ok (.if_icmp .ne 7, 3) := by decide +kernel
theorem dX5_isHeld_92 : decode cX5_isHeld 92 = .ok (.iconst 1, 1) := by decide +kernel
theorem dX5_isHeld_93 : decode cX5_isHeld 93 = .ok (.goto 4, 3) := by decide +kernel
theorem dX5_isHeld_96 : decode cX5_isHeld 96 = .ok (.iconst 0, 1) := by decide +kernel
theorem dX5_isHeld_97 : decode cX5_isHeld 97 = .ok (.ireturn, 1) := by decide +kernel
set_option maxRecDepth 20000 in
theorem ggX5_isSound_X5_hangsTogether : GoodIn wsX5_isSound wsX5_hangsTogether := goodIn_r _ [6, 7, 8, 9, 5, 10, 11, 12, 19, 20, 21, 22, 23, 24, 25, 26, 27, 28, 29, 30, 31, 32, 33, 34, 35, 36, 37] (by decide +kernel) (by decide +kernel)
set_option maxRecDepth 20000 in
theorem gX5_isSound_X5_hangsTogether : GoodIn wsX5_isSound (wsV RX5 82 RX5 yX5_hangsTogether wsX5_hangsTogether) := goodIn_app (goodIn_of _ (by decide +kernel)) ggX5_isSound_X5_hangsTogether
set_option maxRecDepth 20000 in
theorem ggX5_isSound_X5_isHeld : GoodIn wsX5_isSound wsX5_isHeld := goodIn_r _ [16, 17, 11, 18, 19, 20, 21, 22, 23, 24, 25, 26, 27, 28, 29, 30, 31, 32, 33, 34, 35, 36, 37] (by decide +kernel) (by decide +kernel)
set_option maxRecDepth 20000 in
theorem gX5_isSound_X5_isHeld : GoodIn wsX5_isSound (wsV RX5 85 RX5 yX5_isHeld wsX5_isHeld) := goodIn_app (goodIn_of _ (by decide +kernel)) ggX5_isSound_X5_isHeld
theorem dX5_isSound_0 : decode cX5_isSound 0 = .ok (.iload_n 1, 1) := by decide +kernel
theorem dX5_isSound_1 : decode cX5_isSound 1 = .ok (.ifCond .eq 26, 3) := by decide +kernel
theorem dX5_isSound_4 : decode cX5_isSound 4 = .ok (.aload_n 0, 1) := by decide +kernel
theorem dX5_isSound_5 : decode cX5_isSound 5 = .ok (.iload_n 1, 1) := by decide +kernel
theorem dX5_isSound_6 : decode cX5_isSound 6 = .ok (.invokevirtual 82, 3) := by decide +kernel
theorem dX5_isSound_9 : decode cX5_isSound 9 = .ok (.ifCond .eq 22, 3) := by decide +kernel
theorem dX5_isSound_12 : decode cX5_isSound 12 = .ok (.aload_n 0, 1) := by decide +kernel
theorem dX5_isSound_13 : decode cX5_isSound 13 = .ok (.getfield 71, 3) := by decide +kernel
theorem dX5_isSound_16 : decode cX5_isSound 16 = .ok (.ifCond .eq 11, 3) := by decide +kernel
theorem dX5_isSound_19 : decode cX5_isSound 19 = .ok (.aload_n 0, 1) := by decide +kernel
theorem dX5_isSound_20 : decode cX5_isSound 20 = .ok (.iload_n 1, 1) := by decide +kernel
theorem dX5_isSound_21 : decode cX5_isSound 21 = .ok (.invokevirtual 85, 3) := by decide +kernel
theorem dX5_isSound_24 : decode cX5_isSound 24 = .ok (.ifCond .eq 7, 3) := by decide +kernel
theorem dX5_isSound_27 : decode cX5_isSound 27 = .ok (.iconst 1, 1) := by decide +kernel
theorem dX5_isSound_28 : decode cX5_isSound 28 = .ok (.goto 4, 3) := by decide +kernel
theorem dX5_isSound_31 : decode cX5_isSound 31 = .ok (.iconst 0, 1) := by decide +kernel
theorem dX5_isSound_32 : decode cX5_isSound 32 = .ok (.ireturn, 1) := by decide +kernel
theorem dX5_freeOf_0 : decode cX5_freeOf 0 = .ok (.iconst 0, 1) := by decide +kernel
theorem dX5_freeOf_1 : decode cX5_freeOf 1 = .ok (.istore_n 3, 1) := by decide +kernel
theorem dX5_freeOf_2 : decode cX5_freeOf 2 = .ok (.iconst 0, 1) := by decide +kernel
theorem dX5_freeOf_3 : decode cX5_freeOf 3 = .ok (.istore 4, 2) := by decide +kernel
theorem dX5_freeOf_5 : decode cX5_freeOf 5 = .ok (.iload 4, 2) := by decide +kernel
theorem dX5_freeOf_7 : decode cX5_freeOf 7 = .ok (.bipush 6, 2) := by decide +kernel
theorem dX5_freeOf_9 : decode cX5_freeOf 9 = .ok (.if_icmp .ge 37, 3) := by decide +kernel
theorem dX5_freeOf_12 : decode cX5_freeOf 12 = .ok (.iload_n 3, 1) := by decide +kernel
theorem dX5_freeOf_13 : decode cX5_freeOf 13 = .ok (.aload_n 0, 1) := by decide +kernel
theorem dX5_freeOf_14 : decode cX5_freeOf 14 = .ok (.getfield 16, 3) := by decide +kernel
theorem dX5_freeOf_17 : decode cX5_freeOf 17 = .ok (.bipush 8, 2) := by decide +kernel
theorem dX5_freeOf_19 : decode cX5_freeOf 19 = .ok (.iload 4, 2) := by decide +kernel
theorem dX5_freeOf_21 : decode cX5_freeOf 21 = .ok (.imul, 1) := by decide +kernel
theorem dX5_freeOf_22 : decode cX5_freeOf 22 = .ok (.iload_n 2, 1) := by decide +kernel
theorem dX5_freeOf_23 : decode cX5_freeOf 23 = .ok (.iadd, 1) := by decide +kernel
theorem dX5_freeOf_24 : decode cX5_freeOf 24 = .ok (.iaload, 1) := by decide +kernel
theorem dX5_freeOf_25 : decode cX5_freeOf 25 = .ok (.iload_n 1, 1) := by decide +kernel
theorem dX5_freeOf_26 : decode cX5_freeOf 26 = .ok (.iand, 1) := by decide +kernel
theorem dX5_freeOf_27 : decode cX5_freeOf 27 = .ok (.ifCond .ne 10, 3) := by decide +kernel
theorem dX5_freeOf_30 : decode cX5_freeOf 30 = .ok (.iconst 1, 1) := by decide +kernel
theorem dX5_freeOf_31 : decode cX5_freeOf 31 = .ok (.iload 4, 2) := by decide +kernel
theorem dX5_freeOf_33 : decode cX5_freeOf 33 = .ok (.ishl, 1) := by decide +kernel
theorem dX5_freeOf_34 : decode cX5_freeOf 34 = .ok (.goto 4, 3) := by decide +kernel
theorem dX5_freeOf_37 : decode cX5_freeOf 37 = .ok (.iconst 0, 1) := by decide +kernel
theorem dX5_freeOf_38 : decode cX5_freeOf 38 = .ok (.ior, 1) := by decide +kernel
theorem dX5_freeOf_39 : decode cX5_freeOf 39 = .ok (.istore_n 3, 1) := by decide +kernel
theorem dX5_freeOf_40 : decode cX5_freeOf 40 = .ok (.iinc 4 1, 3) := by decide +kernel
theorem dX5_freeOf_43 : decode cX5_freeOf 43 = .ok (.goto (-38), 3) := by decide +kernel
theorem dX5_freeOf_46 : decode cX5_freeOf 46 = .ok (.iload_n 3, 1) := by decide +kernel
theorem dX5_freeOf_47 : decode cX5_freeOf 47 = .ok (.ireturn, 1) := by decide +kernel
set_option maxRecDepth 20000 in
theorem ggX5_isConnected_X5_isSet : GoodIn wsX5_isConnected wsX5_isSet := goodIn_r _ [5, 6, 7, 8, 4, 9, 10, 25, 26, 27, 28, 29, 30, 31, 32, 33, 34, 35, 36, 37, 38, 39, 40, 41, 42, 43] (by decide +kernel) (by decide +kernel)
set_option maxRecDepth 20000 in
theorem gX5_isConnected_X5_isSet : GoodIn wsX5_isConnected (wsV RX5 88 RX5 yX5_isSet wsX5_isSet) := goodIn_app (goodIn_of _ (by decide +kernel)) ggX5_isConnected_X5_isSet
set_option maxRecDepth 20000 in
theorem ggX5_isConnected_X5_holds : GoodIn wsX5_isConnected wsX5_holds := goodIn_r _ [14, 15, 25, 26, 27, 28, 29, 30, 31, 32, 33, 34, 35, 36, 37, 38, 39, 40, 41, 42, 43] (by decide +kernel) (by decide +kernel)
set_option maxRecDepth 20000 in
theorem gX5_isConnected_X5_holds : GoodIn wsX5_isConnected (wsV RX5 51 RX5 yX5_holds wsX5_holds) := goodIn_app (goodIn_of _ (by decide +kernel)) ggX5_isConnected_X5_holds
set_option maxRecDepth 20000 in
theorem ggX5_isConnected_X5_hangsTogether : GoodIn wsX5_isConnected wsX5_hangsTogether := goodIn_r _ [19, 20, 21, 22, 4, 23, 10, 24, 25, 26, 27, 28, 29, 30, 31, 32, 33, 34, 35, 36, 37, 38, 39, 40, 41, 42, 43] (by decide +kernel) (by decide +kernel)
set_option maxRecDepth 20000 in
theorem gX5_isConnected_X5_hangsTogether : GoodIn wsX5_isConnected (wsV RX5 82 RX5 yX5_hangsTogether wsX5_hangsTogether) := goodIn_app (goodIn_of _ (by decide +kernel)) ggX5_isConnected_X5_hangsTogether
theorem dX5_isConnected_0 : decode cX5_isConnected 0 = .ok (.aload_n 0, 1) := by decide +kernel
theorem dX5_isConnected_1 : decode cX5_isConnected 1 = .ok (.aload_n 0, 1) := by decide +kernel
theorem dX5_isConnected_2 : decode cX5_isConnected 2 = .ok (.iload_n 1, 1) := by decide +kernel
theorem dX5_isConnected_3 : decode cX5_isConnected 3 = .ok (.invokevirtual 88, 3) := by decide +kernel
theorem dX5_isConnected_6 : decode cX5_isConnected 6 = .ok (.ifCond .eq 7, 3) := by decide +kernel
theorem dX5_isConnected_9 : decode cX5_isConnected 9 = .ok (.iconst 0, 1) := by decide +kernel
theorem dX5_isConnected_10 : decode cX5_isConnected 10 = .ok (.goto 4, 3) := by decide +kernel
theorem dX5_isConnected_13 : decode cX5_isConnected 13 = .ok (.iconst 1, 1) := by decide +kernel
theorem dX5_isConnected_14 : decode cX5_isConnected 14 = .ok (.invokevirtual 51, 3) := by decide +kernel
theorem dX5_isConnected_17 : decode cX5_isConnected 17 = .ok (.ifCond .eq 15, 3) := by decide +kernel
theorem dX5_isConnected_20 : decode cX5_isConnected 20 = .ok (.aload_n 0, 1) := by decide +kernel
theorem dX5_isConnected_21 : decode cX5_isConnected 21 = .ok (.iload_n 1, 1) := by decide +kernel
theorem dX5_isConnected_22 : decode cX5_isConnected 22 = .ok (.invokevirtual 82, 3) := by decide +kernel
theorem dX5_isConnected_25 : decode cX5_isConnected 25 = .ok (.ifCond .eq 7, 3) := by decide +kernel
theorem dX5_isConnected_28 : decode cX5_isConnected 28 = .ok (.iconst 1, 1) := by decide +kernel
theorem dX5_isConnected_29 : decode cX5_isConnected 29 = .ok (.goto 4, 3) := by decide +kernel
theorem dX5_isConnected_32 : decode cX5_isConnected 32 = .ok (.iconst 0, 1) := by decide +kernel
theorem dX5_isConnected_33 : decode cX5_isConnected 33 = .ok (.ireturn, 1) := by decide +kernel
set_option maxRecDepth 20000 in
theorem ggX5_isSteady_X5_isSet : GoodIn wsX5_isSteady wsX5_isSet := goodIn_r _ [5, 6, 7, 8, 4, 9, 10, 22, 23, 24, 25, 26, 27, 28, 29, 30, 31, 32, 33, 34, 35, 36, 37, 38, 39, 40] (by decide +kernel) (by decide +kernel)
set_option maxRecDepth 20000 in
theorem gX5_isSteady_X5_isSet : GoodIn wsX5_isSteady (wsV RX5 88 RX5 yX5_isSet wsX5_isSet) := goodIn_app (goodIn_of _ (by decide +kernel)) ggX5_isSteady_X5_isSet
set_option maxRecDepth 20000 in
theorem ggX5_isSteady_X5_holds : GoodIn wsX5_isSteady wsX5_holds := goodIn_r _ [14, 15, 22, 23, 24, 25, 26, 27, 28, 29, 30, 31, 32, 33, 34, 35, 36, 37, 38, 39, 40] (by decide +kernel) (by decide +kernel)
set_option maxRecDepth 20000 in
theorem gX5_isSteady_X5_holds : GoodIn wsX5_isSteady (wsV RX5 51 RX5 yX5_holds wsX5_holds) := goodIn_app (goodIn_of _ (by decide +kernel)) ggX5_isSteady_X5_holds
set_option maxRecDepth 20000 in
theorem ggX5_isSteady_X5_isHeld : GoodIn wsX5_isSteady wsX5_isHeld := goodIn_r _ [19, 20, 10, 21, 22, 23, 24, 25, 26, 27, 28, 29, 30, 31, 32, 33, 34, 35, 36, 37, 38, 39, 40] (by decide +kernel) (by decide +kernel)
set_option maxRecDepth 20000 in
theorem gX5_isSteady_X5_isHeld : GoodIn wsX5_isSteady (wsV RX5 85 RX5 yX5_isHeld wsX5_isHeld) := goodIn_app (goodIn_of _ (by decide +kernel)) ggX5_isSteady_X5_isHeld
theorem dX5_isSteady_0 : decode cX5_isSteady 0 = .ok (.aload_n 0, 1) := by decide +kernel
theorem dX5_isSteady_1 : decode cX5_isSteady 1 = .ok (.aload_n 0, 1) := by decide +kernel
theorem dX5_isSteady_2 : decode cX5_isSteady 2 = .ok (.iload_n 1, 1) := by decide +kernel
theorem dX5_isSteady_3 : decode cX5_isSteady 3 = .ok (.invokevirtual 88, 3) := by decide +kernel
theorem dX5_isSteady_6 : decode cX5_isSteady 6 = .ok (.ifCond .eq 7, 3) := by decide +kernel
theorem dX5_isSteady_9 : decode cX5_isSteady 9 = .ok (.iconst 0, 1) := by decide +kernel
theorem dX5_isSteady_10 : decode cX5_isSteady 10 = .ok (.goto 4, 3) := by decide +kernel
theorem dX5_isSteady_13 : decode cX5_isSteady 13 = .ok (.iconst 1, 1) := by decide +kernel
theorem dX5_isSteady_14 : decode cX5_isSteady 14 = .ok (.invokevirtual 51, 3) := by decide +kernel
theorem dX5_isSteady_17 : decode cX5_isSteady 17 = .ok (.ifCond .eq 15, 3) := by decide +kernel
theorem dX5_isSteady_20 : decode cX5_isSteady 20 = .ok (.aload_n 0, 1) := by decide +kernel
theorem dX5_isSteady_21 : decode cX5_isSteady 21 = .ok (.iload_n 1, 1) := by decide +kernel
theorem dX5_isSteady_22 : decode cX5_isSteady 22 = .ok (.invokevirtual 85, 3) := by decide +kernel
theorem dX5_isSteady_25 : decode cX5_isSteady 25 = .ok (.ifCond .eq 7, 3) := by decide +kernel
theorem dX5_isSteady_28 : decode cX5_isSteady 28 = .ok (.iconst 1, 1) := by decide +kernel
theorem dX5_isSteady_29 : decode cX5_isSteady 29 = .ok (.goto 4, 3) := by decide +kernel
theorem dX5_isSteady_32 : decode cX5_isSteady 32 = .ok (.iconst 0, 1) := by decide +kernel
theorem dX5_isSteady_33 : decode cX5_isSteady 33 = .ok (.ireturn, 1) := by decide +kernel
set_option maxRecDepth 20000 in
theorem ggX5_isOf_X5_isPart : GoodIn wsX5_isOf wsX5_isPart := goodIn_r _ [5, 6, 20, 21, 22, 23, 24, 25, 26, 27, 28, 29, 30, 31, 32, 33, 34, 35, 36, 37, 38] (by decide +kernel) (by decide +kernel)
set_option maxRecDepth 20000 in
theorem gX5_isOf_X5_isPart : GoodIn wsX5_isOf (wsV RX5 58 RX5 yX5_isPart wsX5_isPart) := goodIn_app (goodIn_of _ (by decide +kernel)) ggX5_isOf_X5_isPart
set_option maxRecDepth 20000 in
theorem ggX5_isOf_X5_isSet : GoodIn wsX5_isOf wsX5_isSet := goodIn_r _ [10, 11, 12, 13, 4, 14, 6, 20, 21, 22, 23, 24, 25, 26, 27, 28, 29, 30, 31, 32, 33, 34, 35, 36, 37, 38] (by decide +kernel) (by decide +kernel)
set_option maxRecDepth 20000 in
theorem gX5_isOf_X5_isSet : GoodIn wsX5_isOf (wsV RX5 88 RX5 yX5_isSet wsX5_isSet) := goodIn_app (goodIn_of _ (by decide +kernel)) ggX5_isOf_X5_isSet
set_option maxRecDepth 20000 in
theorem ggX5_isOf_X5_holds : GoodIn wsX5_isOf wsX5_holds := goodIn_r _ [18, 19, 20, 21, 22, 23, 24, 25, 26, 27, 28, 29, 30, 31, 32, 33, 34, 35, 36, 37, 38] (by decide +kernel) (by decide +kernel)
set_option maxRecDepth 20000 in
theorem gX5_isOf_X5_holds : GoodIn wsX5_isOf (wsV RX5 51 RX5 yX5_holds wsX5_holds) := goodIn_app (goodIn_of _ (by decide +kernel)) ggX5_isOf_X5_holds
theorem dX5_isOf_0 : decode cX5_isOf 0 = .ok (.aload_n 0, 1) := by decide +kernel
theorem dX5_isOf_1 : decode cX5_isOf 1 = .ok (.aload_n 0, 1) := by decide +kernel
theorem dX5_isOf_2 : decode cX5_isOf 2 = .ok (.iload_n 2, 1) := by decide +kernel
theorem dX5_isOf_3 : decode cX5_isOf 3 = .ok (.invokevirtual 58, 3) := by decide +kernel
theorem dX5_isOf_6 : decode cX5_isOf 6 = .ok (.ifCond .ne 7, 3) := by decide +kernel
theorem dX5_isOf_9 : decode cX5_isOf 9 = .ok (.iconst 1, 1) := by decide +kernel
theorem dX5_isOf_10 : decode cX5_isOf 10 = .ok (.goto 25, 3) := by decide +kernel
theorem dX5_isOf_13 : decode cX5_isOf 13 = .ok (.aload_n 0, 1) := by decide +kernel
theorem dX5_isOf_14 : decode cX5_isOf 14 = .ok (.iload_n 1, 1) := by decide +kernel
theorem dX5_isOf_15 : decode cX5_isOf 15 = .ok (.invokevirtual 88, 3) := by decide +kernel
theorem dX5_isOf_18 : decode cX5_isOf 18 = .ok (.ifCond .eq 16, 3) := by decide +kernel
theorem dX5_isOf_21 : decode cX5_isOf 21 = .ok (.iload_n 1, 1) := by decide +kernel
theorem dX5_isOf_22 : decode cX5_isOf 22 = .ok (.iload_n 2, 1) := by decide +kernel
theorem dX5_isOf_23 : decode cX5_isOf 23 = .ok (.ishr, 1) := by decide +kernel
theorem dX5_isOf_24 : decode cX5_isOf 24 = .ok (.iconst 1, 1) := by decide +kernel
theorem dX5_isOf_25 : decode cX5_isOf 25 = .ok (.iand, 1) := by decide +kernel
theorem dX5_isOf_26 : decode cX5_isOf 26 = .ok (.iconst 1, 1) := by decide +kernel
theorem dX5_isOf_27 : decode cX5_isOf 27 = .ok (.if_icmp .ne 7, 3) := by decide +kernel
theorem dX5_isOf_30 : decode cX5_isOf 30 = .ok (.iconst 0, 1) := by decide +kernel
theorem dX5_isOf_31 : decode cX5_isOf 31 = .ok (.goto 4, 3) := by decide +kernel
theorem dX5_isOf_34 : decode cX5_isOf 34 = .ok (.iconst 2, 1) := by decide +kernel
theorem dX5_isOf_35 : decode cX5_isOf 35 = .ok (.invokevirtual 51, 3) := by decide +kernel
theorem dX5_isOf_38 : decode cX5_isOf 38 = .ok (.ireturn, 1) := by decide +kernel
set_option maxRecDepth 20000 in
theorem ggX5_free_X5_isOf : GoodIn wsX5_free wsX5_isOf := goodIn_r _ [5, 6, 7, 8, 4, 9, 10, 11, 12, 13, 14, 15, 16, 17, 18, 19, 20, 21, 22, 23, 29, 30, 31, 32, 33, 34, 35, 36, 37, 38, 39, 40, 41, 42, 43, 44, 45, 46, 47] (by decide +kernel) (by decide +kernel)
set_option maxRecDepth 20000 in
theorem gX5_free_X5_isOf : GoodIn wsX5_free (wsV RX5 91 RX5 yX5_isOf wsX5_isOf) := goodIn_app (goodIn_of _ (by decide +kernel)) ggX5_free_X5_isOf
set_option maxRecDepth 20000 in
theorem ggX5_free_X5_freeOf : GoodIn wsX5_free wsX5_freeOf := goodIn_r _ [27, 28, 29, 30, 31, 32, 33, 34, 35, 36, 37, 38, 39, 40, 41, 42, 43, 44, 45, 46, 47] (by decide +kernel) (by decide +kernel)
set_option maxRecDepth 20000 in
theorem gX5_free_X5_freeOf : GoodIn wsX5_free (wsV RX5 95 RX5 yX5_freeOf wsX5_freeOf) := goodIn_app (goodIn_of _ (by decide +kernel)) ggX5_free_X5_freeOf
theorem dX5_free_0 : decode cX5_free 0 = .ok (.aload_n 0, 1) := by decide +kernel
theorem dX5_free_1 : decode cX5_free 1 = .ok (.iload_n 1, 1) := by decide +kernel
theorem dX5_free_2 : decode cX5_free 2 = .ok (.iload_n 2, 1) := by decide +kernel
theorem dX5_free_3 : decode cX5_free 3 = .ok (.invokevirtual 91, 3) := by decide +kernel
theorem dX5_free_6 : decode cX5_free 6 = .ok (.ifCond .eq 12, 3) := by decide +kernel
theorem dX5_free_9 : decode cX5_free 9 = .ok (.aload_n 0, 1) := by decide +kernel
theorem dX5_free_10 : decode cX5_free 10 = .ok (.iload_n 1, 1) := by decide +kernel
theorem dX5_free_11 : decode cX5_free 11 = .ok (.iload_n 2, 1) := by decide +kernel
theorem dX5_free_12 : decode cX5_free 12 = .ok (.invokevirtual 95, 3) := by decide +kernel
theorem dX5_free_15 : decode cX5_free 15 = .ok (.goto 4, 3) := by decide +kernel
theorem dX5_free_18 : decode cX5_free 18 = .ok (.iconst 0, 1) := by decide +kernel
theorem dX5_free_19 : decode cX5_free 19 = .ok (.ireturn, 1) := by decide +kernel
set_option maxRecDepth 20000 in
theorem ggX5_canTake_X5_isOf : GoodIn wsX5_canTake wsX5_isOf := goodIn_r _ [5, 6, 7, 8, 4, 9, 10, 11, 12, 13, 14, 15, 16, 17, 18, 19, 20, 21, 22, 23, 48, 49, 50, 51, 52, 53, 54, 55, 56, 57, 58, 59, 60, 61, 62, 63, 64, 65, 66] (by decide +kernel) (by decide +kernel)
set_option maxRecDepth 20000 in
theorem gX5_canTake_X5_isOf : GoodIn wsX5_canTake (wsV RX5 91 RX5 yX5_isOf wsX5_isOf) := goodIn_app (goodIn_of _ (by decide +kernel)) ggX5_canTake_X5_isOf
set_option maxRecDepth 20000 in
theorem ggX5_canTake_X5_isSound : GoodIn wsX5_canTake wsX5_isSound := goodIn_r _ [27, 28, 29, 30, 31, 4, 32, 33, 34, 35, 36, 10, 37, 38, 39, 40, 41, 42, 43, 48, 49, 50, 51, 52, 53, 54, 55, 56, 57, 58, 59, 60, 61, 62, 63, 64, 65, 66] (by decide +kernel) (by decide +kernel)
set_option maxRecDepth 20000 in
theorem gX5_canTake_X5_isSound : GoodIn wsX5_canTake (wsV RX5 98 RX5 yX5_isSound wsX5_isSound) := goodIn_app (goodIn_of _ (by decide +kernel)) ggX5_canTake_X5_isSound
set_option maxRecDepth 20000 in
theorem ggX5_canTake_X5_freeOf : GoodIn wsX5_canTake wsX5_freeOf := goodIn_r _ [47, 43, 48, 49, 50, 51, 52, 53, 54, 55, 56, 57, 58, 59, 60, 61, 62, 63, 64, 65, 66] (by decide +kernel) (by decide +kernel)
set_option maxRecDepth 20000 in
theorem gX5_canTake_X5_freeOf : GoodIn wsX5_canTake (wsV RX5 95 RX5 yX5_freeOf wsX5_freeOf) := goodIn_app (goodIn_of _ (by decide +kernel)) ggX5_canTake_X5_freeOf
theorem dX5_canTake_0 : decode cX5_canTake 0 = .ok (.aload_n 0, 1) := by decide +kernel
theorem dX5_canTake_1 : decode cX5_canTake 1 = .ok (.iload_n 1, 1) := by decide +kernel
theorem dX5_canTake_2 : decode cX5_canTake 2 = .ok (.iload_n 2, 1) := by decide +kernel
theorem dX5_canTake_3 : decode cX5_canTake 3 = .ok (.invokevirtual 91, 3) := by decide +kernel
theorem dX5_canTake_6 : decode cX5_canTake 6 = .ok (.ifCond .eq 38, 3) := by decide +kernel
theorem dX5_canTake_9 : decode cX5_canTake 9 = .ok (.aload_n 0, 1) := by decide +kernel
theorem dX5_canTake_10 : decode cX5_canTake 10 = .ok (.iload_n 1, 1) := by decide +kernel
theorem dX5_canTake_11 : decode cX5_canTake 11 = .ok (.invokevirtual 98, 3) := by decide +kernel
theorem dX5_canTake_14 : decode cX5_canTake 14 = .ok (.ifCond .eq 30, 3) := by decide +kernel
theorem dX5_canTake_17 : decode cX5_canTake 17 = .ok (.aload_n 0, 1) := by decide +kernel
theorem dX5_canTake_18 : decode cX5_canTake 18 = .ok (.iload_n 1, 1) := by decide +kernel
theorem dX5_canTake_19 : decode cX5_canTake 19 = .ok (.iload_n 2, 1) := by decide +kernel
theorem dX5_canTake_20 : decode cX5_canTake 20 = .ok (.invokevirtual 95, 3) := by decide +kernel
theorem dX5_canTake_23 : decode cX5_canTake 23 = .ok (.ifCond .eq 21, 3) := by decide +kernel
theorem dX5_canTake_26 : decode cX5_canTake 26 = .ok (.aload_n 0, 1) := by decide +kernel
theorem dX5_canTake_27 : decode cX5_canTake 27 = .ok (.iload_n 1, 1) := by decide +kernel
theorem dX5_canTake_28 : decode cX5_canTake 28 = .ok (.iconst 1, 1) := by decide +kernel
theorem dX5_canTake_29 : decode cX5_canTake 29 = .ok (.iload_n 2, 1) := by decide +kernel
theorem dX5_canTake_30 : decode cX5_canTake 30 = .ok (.ishl, 1) := by decide +kernel
theorem dX5_canTake_31 : decode cX5_canTake 31 = .ok (.iconst (-1), 1) := by decide +kernel
theorem dX5_canTake_32 : decode cX5_canTake 32 = .ok (.ixor, 1) := by decide +kernel
theorem dX5_canTake_33 : decode cX5_canTake 33 = .ok (.iand, 1) := by decide +kernel
theorem dX5_canTake_34 : decode cX5_canTake 34 = .ok (.invokevirtual 98, 3) := by decide +kernel
theorem dX5_canTake_37 : decode cX5_canTake 37 = .ok (.ifCond .eq 7, 3) := by decide +kernel
theorem dX5_canTake_40 : decode cX5_canTake 40 = .ok (.iconst 1, 1) := by decide +kernel
theorem dX5_canTake_41 : decode cX5_canTake 41 = .ok (.goto 4, 3) := by decide +kernel
theorem dX5_canTake_44 : decode cX5_canTake 44 = .ok (.iconst 0, 1) := by decide +kernel
theorem dX5_canTake_45 : decode cX5_canTake 45 = .ok (.ireturn, 1) := by decide +kernel
theorem dX5_moving_0 : decode cX5_moving 0 = .ok (.iconst 0, 1) := by decide +kernel
theorem dX5_moving_1 : decode cX5_moving 1 = .ok (.istore_n 3, 1) := by decide +kernel
theorem dX5_moving_2 : decode cX5_moving 2 = .ok (.iconst 1, 1) := by decide +kernel
theorem dX5_moving_3 : decode cX5_moving 3 = .ok (.iload_n 1, 1) := by decide +kernel
theorem dX5_moving_4 : decode cX5_moving 4 = .ok (.ishl, 1) := by decide +kernel
theorem dX5_moving_5 : decode cX5_moving 5 = .ok (.istore 4, 2) := by decide +kernel
theorem dX5_moving_7 : decode cX5_moving 7 = .ok (.iload_n 3, 1) := by decide +kernel
theorem dX5_moving_8 : decode cX5_moving 8 = .ok (.iload 4, 2) := by decide +kernel
theorem dX5_moving_10 : decode cX5_moving 10 = .ok (.if_icmp .eq 58, 3) := by decide +kernel
theorem dX5_moving_13 : decode cX5_moving 13 = .ok (.iload 4, 2) := by decide +kernel
theorem dX5_moving_15 : decode cX5_moving 15 = .ok (.istore_n 3, 1) := by decide +kernel
theorem dX5_moving_16 : decode cX5_moving 16 = .ok (.iconst 0, 1) := by decide +kernel
theorem dX5_moving_17 : decode cX5_moving 17 = .ok (.istore 5, 2) := by decide +kernel
theorem dX5_moving_19 : decode cX5_moving 19 = .ok (.iload 5, 2) := by decide +kernel
theorem dX5_moving_21 : decode cX5_moving 21 = .ok (.aload_n 0, 1) := by decide +kernel
theorem dX5_moving_22 : decode cX5_moving 22 = .ok (.getfield 44, 3) := by decide +kernel
theorem dX5_moving_25 : decode cX5_moving 25 = .ok (.if_icmp .ge 40, 3) := by decide +kernel
theorem dX5_moving_28 : decode cX5_moving 28 = .ok (.iload 4, 2) := by decide +kernel
theorem dX5_moving_30 : decode cX5_moving 30 = .ok (.iload_n 3, 1) := by decide +kernel
theorem dX5_moving_31 : decode cX5_moving 31 = .ok (.iload 5, 2) := by decide +kernel
theorem dX5_moving_33 : decode cX5_moving 33 = .ok (.ishr, 1) := by decide +kernel
theorem dX5_moving_34 : decode cX5_moving 34 = .ok (.iconst 1, 1) := by decide +kernel
theorem dX5_moving_35 : decode cX5_moving 35 = .ok (.iand, 1) := by decide +kernel
theorem dX5_moving_36 : decode cX5_moving 36 = .ok (.iconst 1, 1) := by decide +kernel
theorem dX5_moving_37 : decode cX5_moving 37 = .ok (.if_icmp .ne 18, 3) := by decide +kernel
theorem dX5_moving_40 : decode cX5_moving 40 = .ok (.aload_n 0, 1) := by decide +kernel
theorem dX5_moving_41 : decode cX5_moving 41 = .ok (.getfield 16, 3) := by decide +kernel
theorem dX5_moving_44 : decode cX5_moving 44 = .ok (.bipush 8, 2) := by decide +kernel
theorem dX5_moving_46 : decode cX5_moving 46 = .ok (.iload_n 2, 1) := by decide +kernel
theorem dX5_moving_47 : decode cX5_moving 47 = .ok (.imul, 1) := by decide +kernel
theorem dX5_moving_48 : decode cX5_moving 48 = .ok (.iload 5, 2) := by decide +kernel
theorem dX5_moving_50 : decode cX5_moving 50 = .ok (.iadd, 1) := by decide +kernel
theorem dX5_moving_51 : decode cX5_moving 51 = .ok (.iaload, 1) := by decide +kernel
theorem dX5_moving_52 : decode cX5_moving 52 = .ok (.goto 4, 3) := by decide +kernel
theorem dX5_moving_55 : decode cX5_moving 55 = .ok (.iconst 0, 1) := by decide +kernel
theorem dX5_moving_56 : decode cX5_moving 56 = .ok (.ior, 1) := by decide +kernel
theorem dX5_moving_57 : decode cX5_moving 57 = .ok (.istore 4, 2) := by decide +kernel
theorem dX5_moving_59 : decode cX5_moving 59 = .ok (.iinc 5 1, 3) := by decide +kernel
theorem dX5_moving_62 : decode cX5_moving 62 = .ok (.goto (-43), 3) := by decide +kernel
theorem dX5_moving_65 : decode cX5_moving 65 = .ok (.goto (-58), 3) := by decide +kernel
theorem dX5_moving_68 : decode cX5_moving 68 = .ok (.iload 4, 2) := by decide +kernel
theorem dX5_moving_70 : decode cX5_moving 70 = .ok (.ireturn, 1) := by decide +kernel
set_option maxRecDepth 20000 in
theorem ggX5_bound_X5_moving : GoodIn wsX5_bound wsX5_moving := goodIn_r _ [6, 1, 7, 8, 9, 10, 11, 12, 13, 14, 15, 16, 17, 18, 19, 20, 21, 22, 23, 24, 25, 26] (by decide +kernel) (by decide +kernel)
set_option maxRecDepth 20000 in
theorem gX5_bound_X5_moving : GoodIn wsX5_bound (wsV RX5 101 RX5 yX5_moving wsX5_moving) := goodIn_app (goodIn_of _ (by decide +kernel)) ggX5_bound_X5_moving
theorem dX5_bound_0 : decode cX5_bound 0 = .ok (.iconst 0, 1) := by decide +kernel
theorem dX5_bound_1 : decode cX5_bound 1 = .ok (.istore_n 3, 1) := by decide +kernel
theorem dX5_bound_2 : decode cX5_bound 2 = .ok (.aload_n 0, 1) := by decide +kernel
theorem dX5_bound_3 : decode cX5_bound 3 = .ok (.iload_n 1, 1) := by decide +kernel
theorem dX5_bound_4 : decode cX5_bound 4 = .ok (.iload_n 2, 1) := by decide +kernel
theorem dX5_bound_5 : decode cX5_bound 5 = .ok (.invokevirtual 101, 3) := by decide +kernel
theorem dX5_bound_8 : decode cX5_bound 8 = .ok (.istore 4, 2) := by decide +kernel
theorem dX5_bound_10 : decode cX5_bound 10 = .ok (.iconst 0, 1) := by decide +kernel
theorem dX5_bound_11 : decode cX5_bound 11 = .ok (.istore 5, 2) := by decide +kernel
theorem dX5_bound_13 : decode cX5_bound 13 = .ok (.iload 5, 2) := by decide +kernel
theorem dX5_bound_15 : decode cX5_bound 15 = .ok (.aload_n 0, 1) := by decide +kernel
theorem dX5_bound_16 : decode cX5_bound 16 = .ok (.getfield 44, 3) := by decide +kernel
theorem dX5_bound_19 : decode cX5_bound 19 = .ok (.if_icmp .ge 58, 3) := by decide +kernel
theorem dX5_bound_22 : decode cX5_bound 22 = .ok (.iload 4, 2) := by decide +kernel
theorem dX5_bound_24 : decode cX5_bound 24 = .ok (.iload 5, 2) := by decide +kernel
theorem dX5_bound_26 : decode cX5_bound 26 = .ok (.ishr, 1) := by decide +kernel
theorem dX5_bound_27 : decode cX5_bound 27 = .ok (.iconst 1, 1) := by decide +kernel
theorem dX5_bound_28 : decode cX5_bound 28 = .ok (.iand, 1) := by decide +kernel
theorem dX5_bound_29 : decode cX5_bound 29 = .ok (.iconst 1, 1) := by decide +kernel
theorem dX5_bound_30 : decode cX5_bound 30 = .ok (.if_icmp .ne 22, 3) := by decide +kernel
theorem dX5_bound_33 : decode cX5_bound 33 = .ok (.aload_n 0, 1) := by decide +kernel
theorem dX5_bound_34 : decode cX5_bound 34 = .ok (.iload 5, 2) := by decide +kernel
theorem dX5_bound_36 : decode cX5_bound 36 = .ok (.iload_n 2, 1) := by decide +kernel
theorem dX5_bound_37 : decode cX5_bound 37 = .ok (.invokevirtual 101, 3) := by decide +kernel
theorem dX5_bound_40 : decode cX5_bound 40 = .ok (.iload_n 1, 1) := by decide +kernel
theorem dX5_bound_41 : decode cX5_bound 41 = .ok (.ishr, 1) := by decide +kernel
theorem dX5_bound_42 : decode cX5_bound 42 = .ok (.iconst 1, 1) := by decide +kernel
theorem dX5_bound_43 : decode cX5_bound 43 = .ok (.iand, 1) := by decide +kernel
theorem dX5_bound_44 : decode cX5_bound 44 = .ok (.iconst 1, 1) := by decide +kernel
theorem dX5_bound_45 : decode cX5_bound 45 = .ok (.if_icmp .ne 7, 3) := by decide +kernel
theorem dX5_bound_48 : decode cX5_bound 48 = .ok (.iconst 1, 1) := by decide +kernel
theorem dX5_bound_49 : decode cX5_bound 49 = .ok (.goto 4, 3) := by decide +kernel
theorem dX5_bound_52 : decode cX5_bound 52 = .ok (.iconst 0, 1) := by decide +kernel
theorem dX5_bound_53 : decode cX5_bound 53 = .ok (.istore 6, 2) := by decide +kernel
theorem dX5_bound_55 : decode cX5_bound 55 = .ok (.iload_n 3, 1) := by decide +kernel
theorem dX5_bound_56 : decode cX5_bound 56 = .ok (.iload 6, 2) := by decide +kernel
theorem dX5_bound_58 : decode cX5_bound 58 = .ok (.ifCond .eq 10, 3) := by decide +kernel
theorem dX5_bound_61 : decode cX5_bound 61 = .ok (.iconst 1, 1) := by decide +kernel
theorem dX5_bound_62 : decode cX5_bound 62 = .ok (.iload 5, 2) := by decide +kernel
theorem dX5_bound_64 : decode cX5_bound 64 = .ok (.ishl, 1) := by decide +kernel
theorem dX5_bound_65 : decode cX5_bound 65 = .ok (.goto 4, 3) := by decide +kernel
theorem dX5_bound_68 : decode cX5_bound 68 = .ok (.iconst 0, 1) := by decide +kernel
theorem dX5_bound_69 : decode cX5_bound 69 = .ok (.ior, 1) := by decide +kernel
theorem dX5_bound_70 : decode cX5_bound 70 = .ok (.istore_n 3, 1) := by decide +kernel
theorem dX5_bound_71 : decode cX5_bound 71 = .ok (.iinc 5 1, 3) := by decide +kernel
theorem dX5_bound_74 : decode cX5_bound 74 = .ok (.goto (-61), 3) := by decide +kernel
theorem dX5_bound_77 : decode cX5_bound 77 = .ok (.iload_n 3, 1) := by decide +kernel
theorem dX5_bound_78 : decode cX5_bound 78 = .ok (.ireturn, 1) := by decide +kernel
set_option maxRecDepth 20000 in
theorem ggX5_movesWith_X5_isPart : GoodIn wsX5_movesWith wsX5_isPart := goodIn_r _ [5, 6, 20, 21, 22, 23, 24, 25, 26, 27, 28, 29, 30, 31, 32, 33, 34, 35, 36, 37, 38] (by decide +kernel) (by decide +kernel)
set_option maxRecDepth 20000 in
theorem gX5_movesWith_X5_isPart : GoodIn wsX5_movesWith (wsV RX5 58 RX5 yX5_isPart wsX5_isPart) := goodIn_app (goodIn_of _ (by decide +kernel)) ggX5_movesWith_X5_isPart
set_option maxRecDepth 20000 in
theorem ggX5_movesWith_X5_isDirection : GoodIn wsX5_movesWith wsX5_isDirection := goodIn_r _ [9] (by decide +kernel) (by decide +kernel)
set_option maxRecDepth 20000 in
theorem gX5_movesWith_X5_isDirection : GoodIn wsX5_movesWith (va_wsS RX5 65 yX5_isDirection wsX5_isDirection) := goodIn_app (goodIn_of _ (by decide +kernel)) ggX5_movesWith_X5_isDirection
set_option maxRecDepth 20000 in
theorem ggX5_movesWith_X5_holds : GoodIn wsX5_movesWith wsX5_holds := goodIn_r _ [13, 14, 20, 21, 22, 23, 24, 25, 26, 27, 28, 29, 30, 31, 32, 33, 34, 35, 36, 37, 38] (by decide +kernel) (by decide +kernel)
set_option maxRecDepth 20000 in
theorem gX5_movesWith_X5_holds : GoodIn wsX5_movesWith (wsV RX5 51 RX5 yX5_holds wsX5_holds) := goodIn_app (goodIn_of _ (by decide +kernel)) ggX5_movesWith_X5_holds
set_option maxRecDepth 20000 in
theorem ggX5_movesWith_X5_moving : GoodIn wsX5_movesWith wsX5_moving := goodIn_r _ [18, 6, 19, 20, 21, 22, 23, 24, 25, 26, 27, 28, 29, 30, 31, 32, 33, 34, 35, 36, 37, 38] (by decide +kernel) (by decide +kernel)
set_option maxRecDepth 20000 in
theorem gX5_movesWith_X5_moving : GoodIn wsX5_movesWith (wsV RX5 101 RX5 yX5_moving wsX5_moving) := goodIn_app (goodIn_of _ (by decide +kernel)) ggX5_movesWith_X5_moving
theorem dX5_movesWith_0 : decode cX5_movesWith 0 = .ok (.aload_n 0, 1) := by decide +kernel
theorem dX5_movesWith_1 : decode cX5_movesWith 1 = .ok (.aload_n 0, 1) := by decide +kernel
theorem dX5_movesWith_2 : decode cX5_movesWith 2 = .ok (.iload_n 1, 1) := by decide +kernel
theorem dX5_movesWith_3 : decode cX5_movesWith 3 = .ok (.invokevirtual 58, 3) := by decide +kernel
theorem dX5_movesWith_6 : decode cX5_movesWith 6 = .ok (.ifCond .eq 14, 3) := by decide +kernel
theorem dX5_movesWith_9 : decode cX5_movesWith 9 = .ok (.iload_n 2, 1) := by decide +kernel
theorem dX5_movesWith_10 : decode cX5_movesWith 10 = .ok (.invokestatic 65, 3) := by decide +kernel
theorem dX5_movesWith_13 : decode cX5_movesWith 13 = .ok (.ifCond .eq 7, 3) := by decide +kernel
theorem dX5_movesWith_16 : decode cX5_movesWith 16 = .ok (.iconst 0, 1) := by decide +kernel
theorem dX5_movesWith_17 : decode cX5_movesWith 17 = .ok (.goto 4, 3) := by decide +kernel
theorem dX5_movesWith_20 : decode cX5_movesWith 20 = .ok (.iconst 1, 1) := by decide +kernel
theorem dX5_movesWith_21 : decode cX5_movesWith 21 = .ok (.invokevirtual 51, 3) := by decide +kernel
theorem dX5_movesWith_24 : decode cX5_movesWith 24 = .ok (.ifCond .eq 12, 3) := by decide +kernel
theorem dX5_movesWith_27 : decode cX5_movesWith 27 = .ok (.aload_n 0, 1) := by decide +kernel
theorem dX5_movesWith_28 : decode cX5_movesWith 28 = .ok (.iload_n 1, 1) := by decide +kernel
theorem dX5_movesWith_29 : decode cX5_movesWith 29 = .ok (.iload_n 2, 1) := by decide +kernel
theorem dX5_movesWith_30 : decode cX5_movesWith 30 = .ok (.invokevirtual 101, 3) := by decide +kernel
theorem dX5_movesWith_33 : decode cX5_movesWith 33 = .ok (.goto 4, 3) := by decide +kernel
theorem dX5_movesWith_36 : decode cX5_movesWith 36 = .ok (.iconst 0, 1) := by decide +kernel
theorem dX5_movesWith_37 : decode cX5_movesWith 37 = .ok (.ireturn, 1) := by decide +kernel
set_option maxRecDepth 20000 in
theorem ggX5_boundTo_X5_isPart : GoodIn wsX5_boundTo wsX5_isPart := goodIn_r _ [5, 6, 24, 25, 26, 27, 28, 29, 30, 31, 32, 33, 34, 35, 36, 37, 38, 39, 40, 41, 42] (by decide +kernel) (by decide +kernel)
set_option maxRecDepth 20000 in
theorem gX5_boundTo_X5_isPart : GoodIn wsX5_boundTo (wsV RX5 58 RX5 yX5_isPart wsX5_isPart) := goodIn_app (goodIn_of _ (by decide +kernel)) ggX5_boundTo_X5_isPart
set_option maxRecDepth 20000 in
theorem ggX5_boundTo_X5_isDirection : GoodIn wsX5_boundTo wsX5_isDirection := goodIn_r _ [9] (by decide +kernel) (by decide +kernel)
set_option maxRecDepth 20000 in
theorem gX5_boundTo_X5_isDirection : GoodIn wsX5_boundTo (va_wsS RX5 65 yX5_isDirection wsX5_isDirection) := goodIn_app (goodIn_of _ (by decide +kernel)) ggX5_boundTo_X5_isDirection
set_option maxRecDepth 20000 in
theorem ggX5_boundTo_X5_holds : GoodIn wsX5_boundTo wsX5_holds := goodIn_r _ [13, 14, 24, 25, 26, 27, 28, 29, 30, 31, 32, 33, 34, 35, 36, 37, 38, 39, 40, 41, 42] (by decide +kernel) (by decide +kernel)
set_option maxRecDepth 20000 in
theorem gX5_boundTo_X5_holds : GoodIn wsX5_boundTo (wsV RX5 51 RX5 yX5_holds wsX5_holds) := goodIn_app (goodIn_of _ (by decide +kernel)) ggX5_boundTo_X5_holds
set_option maxRecDepth 20000 in
theorem ggX5_boundTo_X5_bound : GoodIn wsX5_boundTo wsX5_bound := goodIn_r _ [18, 6, 19, 20, 21, 4, 22, 23, 24, 25, 26, 27, 28, 29, 30, 31, 32, 33, 34, 35, 36, 37, 38, 39, 40, 41, 42] (by decide +kernel) (by decide +kernel)
set_option maxRecDepth 20000 in
theorem gX5_boundTo_X5_bound : GoodIn wsX5_boundTo (wsV RX5 104 RX5 yX5_bound wsX5_bound) := goodIn_app (goodIn_of _ (by decide +kernel)) ggX5_boundTo_X5_bound
theorem dX5_boundTo_0 : decode cX5_boundTo 0 = .ok (.aload_n 0, 1) := by decide +kernel
theorem dX5_boundTo_1 : decode cX5_boundTo 1 = .ok (.aload_n 0, 1) := by decide +kernel
theorem dX5_boundTo_2 : decode cX5_boundTo 2 = .ok (.iload_n 1, 1) := by decide +kernel
theorem dX5_boundTo_3 : decode cX5_boundTo 3 = .ok (.invokevirtual 58, 3) := by decide +kernel
theorem dX5_boundTo_6 : decode cX5_boundTo 6 = .ok (.ifCond .eq 14, 3) := by decide +kernel
theorem dX5_boundTo_9 : decode cX5_boundTo 9 = .ok (.iload_n 2, 1) := by decide +kernel
theorem dX5_boundTo_10 : decode cX5_boundTo 10 = .ok (.invokestatic 65, 3) := by decide +kernel
theorem dX5_boundTo_13 : decode cX5_boundTo 13 = .ok (.ifCond .eq 7, 3) := by decide +kernel
theorem dX5_boundTo_16 : decode cX5_boundTo 16 = .ok (.iconst 0, 1) := by decide +kernel
theorem dX5_boundTo_17 : decode cX5_boundTo 17 = .ok (.goto 4, 3) := by decide +kernel
theorem dX5_boundTo_20 : decode cX5_boundTo 20 = .ok (.iconst 1, 1) := by decide +kernel
theorem dX5_boundTo_21 : decode cX5_boundTo 21 = .ok (.invokevirtual 51, 3) := by decide +kernel
theorem dX5_boundTo_24 : decode cX5_boundTo 24 = .ok (.ifCond .eq 12, 3) := by decide +kernel
theorem dX5_boundTo_27 : decode cX5_boundTo 27 = .ok (.aload_n 0, 1) := by decide +kernel
theorem dX5_boundTo_28 : decode cX5_boundTo 28 = .ok (.iload_n 1, 1) := by decide +kernel
theorem dX5_boundTo_29 : decode cX5_boundTo 29 = .ok (.iload_n 2, 1) := by decide +kernel
theorem dX5_boundTo_30 : decode cX5_boundTo 30 = .ok (.invokevirtual 104, 3) := by decide +kernel
theorem dX5_boundTo_33 : decode cX5_boundTo 33 = .ok (.goto 4, 3) := by decide +kernel
theorem dX5_boundTo_36 : decode cX5_boundTo 36 = .ok (.iconst 0, 1) := by decide +kernel
theorem dX5_boundTo_37 : decode cX5_boundTo 37 = .ok (.ireturn, 1) := by decide +kernel
set_option maxRecDepth 20000 in
theorem ggX5_groups_X5_isDirection : GoodIn wsX5_groups wsX5_isDirection := goodIn_r _ [5] (by decide +kernel) (by decide +kernel)
set_option maxRecDepth 20000 in
theorem gX5_groups_X5_isDirection : GoodIn wsX5_groups (va_wsS RX5 65 yX5_isDirection wsX5_isDirection) := goodIn_app (goodIn_of _ (by decide +kernel)) ggX5_groups_X5_isDirection
set_option maxRecDepth 20000 in
theorem ggX5_groups_X5_holds : GoodIn wsX5_groups wsX5_holds := goodIn_r _ [9, 10, 20, 21, 22, 23, 24, 25, 26, 27, 28, 29, 30, 31, 32, 33, 34, 35, 36, 37, 38] (by decide +kernel) (by decide +kernel)
set_option maxRecDepth 20000 in
theorem gX5_groups_X5_holds : GoodIn wsX5_groups (wsV RX5 51 RX5 yX5_holds wsX5_holds) := goodIn_app (goodIn_of _ (by decide +kernel)) ggX5_groups_X5_holds
set_option maxRecDepth 20000 in
theorem ggX5_groups_X5_bound : GoodIn wsX5_groups wsX5_bound := goodIn_r _ [14, 1, 15, 16, 17, 4, 18, 19, 20, 21, 22, 23, 24, 25, 26, 27, 28, 29, 30, 31, 32, 33, 34, 35, 36, 37, 38] (by decide +kernel) (by decide +kernel)
set_option maxRecDepth 20000 in
theorem gX5_groups_X5_bound : GoodIn wsX5_groups (wsV RX5 104 RX5 yX5_bound wsX5_bound) := goodIn_app (goodIn_of _ (by decide +kernel)) ggX5_groups_X5_bound
theorem dX5_groups_0 : decode cX5_groups 0 = .ok (.aload_n 0, 1) := by decide +kernel
theorem dX5_groups_1 : decode cX5_groups 1 = .ok (.iload_n 1, 1) := by decide +kernel
theorem dX5_groups_2 : decode cX5_groups 2 = .ok (.invokestatic 65, 3) := by decide +kernel
theorem dX5_groups_5 : decode cX5_groups 5 = .ok (.ifCond .eq 7, 3) := by decide +kernel
theorem dX5_groups_8 : decode cX5_groups 8 = .ok (.iconst 0, 1) := by decide +kernel
theorem dX5_groups_9 : decode cX5_groups 9 = .ok (.goto 4, 3) := by decide +kernel
theorem dX5_groups_12 : decode cX5_groups 12 = .ok (.iconst 1, 1) := by decide +kernel
theorem dX5_groups_13 : decode cX5_groups 13 = .ok (.invokevirtual 51, 3) := by decide +kernel
theorem dX5_groups_16 : decode cX5_groups 16 = .ok (.ifCond .ne 5, 3) := by decide +kernel
theorem dX5_groups_19 : decode cX5_groups 19 = .ok (.iconst 0, 1) := by decide +kernel
theorem dX5_groups_20 : decode cX5_groups 20 = .ok (.ireturn, 1) := by decide +kernel
theorem dX5_groups_21 : decode cX5_groups 21 = .ok (.iconst 0, 1) := by decide +kernel
theorem dX5_groups_22 : decode cX5_groups 22 = .ok (.istore_n 2, 1) := by decide +kernel
theorem dX5_groups_23 : decode cX5_groups 23 = .ok (.iconst 0, 1) := by decide +kernel
theorem dX5_groups_24 : decode cX5_groups 24 = .ok (.istore_n 3, 1) := by decide +kernel
theorem dX5_groups_25 : decode cX5_groups 25 = .ok (.iload_n 3, 1) := by decide +kernel
theorem dX5_groups_26 : decode cX5_groups 26 = .ok (.aload_n 0, 1) := by decide +kernel
theorem dX5_groups_27 : decode cX5_groups 27 = .ok (.getfield 44, 3) := by decide +kernel
theorem dX5_groups_30 : decode cX5_groups 30 = .ok (.if_icmp .ge 37, 3) := by decide +kernel
theorem dX5_groups_33 : decode cX5_groups 33 = .ok (.aload_n 0, 1) := by decide +kernel
theorem dX5_groups_34 : decode cX5_groups 34 = .ok (.iload_n 3, 1) := by decide +kernel
theorem dX5_groups_35 : decode cX5_groups 35 = .ok (.iload_n 1, 1) := by decide +kernel
theorem dX5_groups_36 : decode cX5_groups 36 = .ok (.invokevirtual 104, 3) := by decide +kernel
theorem dX5_groups_39 : decode cX5_groups 39 = .ok (.istore 4, 2) := by decide +kernel
theorem dX5_groups_41 : decode cX5_groups 41 = .ok (.iload_n 2, 1) := by decide +kernel
theorem dX5_groups_42 : decode cX5_groups 42 = .ok (.iload 4, 2) := by decide +kernel
theorem dX5_groups_44 : decode cX5_groups 44 = .ok (.iload 4, 2) := by decide +kernel
theorem dX5_groups_46 : decode cX5_groups 46 = .ok (.ineg, 1) := by decide +kernel
theorem dX5_groups_47 : decode cX5_groups 47 = .ok (.iand, 1) := by decide +kernel
theorem dX5_groups_48 : decode cX5_groups 48 = .ok (.iconst 1, 1) := by decide +kernel
theorem dX5_groups_49 : decode cX5_groups 49 = .ok (.iload_n 3, 1) := by decide +kernel
theorem dX5_groups_50 : decode cX5_groups 50 = .ok (.ishl, 1) := by decide +kernel
theorem dX5_groups_51 : decode cX5_groups 51 = .ok (.if_icmp .ne 7, 3) := by decide +kernel
theorem dX5_groups_54 : decode cX5_groups 54 = .ok (.iconst 1, 1) := by decide +kernel
theorem dX5_groups_55 : decode cX5_groups 55 = .ok (.goto 4, 3) := by decide +kernel
theorem dX5_groups_58 : decode cX5_groups 58 = .ok (.iconst 0, 1) := by decide +kernel
theorem dX5_groups_59 : decode cX5_groups 59 = .ok (.iadd, 1) := by decide +kernel
theorem dX5_groups_60 : decode cX5_groups 60 = .ok (.istore_n 2, 1) := by decide +kernel
theorem dX5_groups_61 : decode cX5_groups 61 = .ok (.iinc 3 1, 3) := by decide +kernel
theorem dX5_groups_64 : decode cX5_groups 64 = .ok (.goto (-39), 3) := by decide +kernel
theorem dX5_groups_67 : decode cX5_groups 67 = .ok (.iload_n 2, 1) := by decide +kernel
theorem dX5_groups_68 : decode cX5_groups 68 = .ok (.ireturn, 1) := by decide +kernel
theorem dX5_canPart_0 : decode cX5_canPart 0 = .ok (.iconst 0, 1) := by decide +kernel
theorem dX5_canPart_1 : decode cX5_canPart 1 = .ok (.istore_n 3, 1) := by decide +kernel
theorem dX5_canPart_2 : decode cX5_canPart 2 = .ok (.iconst 0, 1) := by decide +kernel
theorem dX5_canPart_3 : decode cX5_canPart 3 = .ok (.istore 4, 2) := by decide +kernel
theorem dX5_canPart_5 : decode cX5_canPart 5 = .ok (.iload 4, 2) := by decide +kernel
theorem dX5_canPart_7 : decode cX5_canPart 7 = .ok (.bipush 6, 2) := by decide +kernel
theorem dX5_canPart_9 : decode cX5_canPart 9 = .ok (.if_icmp .ge 79, 3) := by decide +kernel
theorem dX5_canPart_12 : decode cX5_canPart 12 = .ok (.iconst 0, 1) := by decide +kernel
theorem dX5_canPart_13 : decode cX5_canPart 13 = .ok (.istore 5, 2) := by decide +kernel
theorem dX5_canPart_15 : decode cX5_canPart 15 = .ok (.iconst 0, 1) := by decide +kernel
theorem dX5_canPart_16 : decode cX5_canPart 16 = .ok (.istore 6, 2) := by decide +kernel
theorem dX5_canPart_18 : decode cX5_canPart 18 = .ok (.iload 6, 2) := by decide +kernel
theorem dX5_canPart_20 : decode cX5_canPart 20 = .ok (.aload_n 0, 1) := by decide +kernel
theorem dX5_canPart_21 : decode cX5_canPart 21 = .ok (.getfield 44, 3) := by decide +kernel
theorem dX5_canPart_24 : decode cX5_canPart 24 = .ok (.if_icmp .ge 43, 3) := by decide +kernel
theorem dX5_canPart_27 : decode cX5_canPart 27 = .ok (.iload 5, 2) := by decide +kernel
theorem dX5_canPart_29 : decode cX5_canPart 29 = .ok (.iload_n 1, 1) := by decide +kernel
theorem dX5_canPart_30 : decode cX5_canPart 30 = .ok (.iload 6, 2) := by decide +kernel
theorem dX5_canPart_32 : decode cX5_canPart 32 = .ok (.ishr, 1) := by decide +kernel
theorem dX5_canPart_33 : decode cX5_canPart 33 = .ok (.iconst 1, 1) := by decide +kernel
theorem dX5_canPart_34 : decode cX5_canPart 34 = .ok (.iand, 1) := by decide +kernel
theorem dX5_canPart_35 : decode cX5_canPart 35 = .ok (.iconst 1, 1) := by decide +kernel
theorem dX5_canPart_36 : decode cX5_canPart 36 = .ok (.if_icmp .ne 21, 3) := by decide +kernel
theorem dX5_canPart_39 : decode cX5_canPart 39 = .ok (.aload_n 0, 1) := by decide +kernel
theorem dX5_canPart_40 : decode cX5_canPart 40 = .ok (.getfield 16, 3) := by decide +kernel
theorem dX5_canPart_43 : decode cX5_canPart 43 = .ok (.bipush 8, 2) := by decide +kernel
theorem dX5_canPart_45 : decode cX5_canPart 45 = .ok (.iload 4, 2) := by decide +kernel
theorem dX5_canPart_47 : decode cX5_canPart 47 = .ok (.imul, 1) := by decide +kernel
theorem dX5_canPart_48 : decode cX5_canPart 48 = .ok (.iload 6, 2) := by decide +kernel
theorem dX5_canPart_50 : decode cX5_canPart 50 = .ok (.iadd, 1) := by decide +kernel
theorem dX5_canPart_51 : decode cX5_canPart 51 = .ok (.iaload, 1) := by decide +kernel
theorem dX5_canPart_52 : decode cX5_canPart 52 = .ok (.iload_n 2, 1) := by decide +kernel
theorem dX5_canPart_53 : decode cX5_canPart 53 = .ok (.iand, 1) := by decide +kernel
theorem dX5_canPart_54 : decode cX5_canPart 54 = .ok (.goto 4, 3) := by decide +kernel
theorem dX5_canPart_57 : decode cX5_canPart 57 = .ok (.iconst 0, 1) := by decide +kernel
theorem dX5_canPart_58 : decode cX5_canPart 58 = .ok (.ior, 1) := by decide +kernel
theorem dX5_canPart_59 : decode cX5_canPart 59 = .ok (.istore 5, 2) := by decide +kernel
theorem dX5_canPart_61 : decode cX5_canPart 61 = .ok (.iinc 6 1, 3) := by decide +kernel
theorem dX5_canPart_64 : decode cX5_canPart 64 = .ok (.goto (-46), 3) := by decide +kernel
theorem dX5_canPart_67 : decode cX5_canPart 67 = .ok (.iload_n 3, 1) := by decide +kernel
theorem dX5_canPart_68 : decode cX5_canPart 68 = .ok (.ifCond .ne 8, 3) := by decide +kernel
theorem dX5_canPart_71 : decode cX5_canPart 71 = .ok (.iload 5, 2) := by decide +kernel
theorem dX5_canPart_73 : decode cX5_canPart 73 = .ok (.ifCond .ne 7, 3) := by decide +kernel
theorem dX5_canPart_76 : decode cX5_canPart 76 = .ok (.iconst 1, 1) := by decide +kernel
theorem dX5_canPart_77 : decode cX5_canPart 77 = .ok (.goto 4, 3) := by decide +kernel
theorem dX5_canPart_80 : decode cX5_canPart 80 = .ok (.iconst 0, 1) := by decide +kernel
theorem dX5_canPart_81 : decode cX5_canPart 81 = .ok (.istore_n 3, 1) := by decide +kernel
theorem dX5_canPart_82 : decode cX5_canPart 82 = .ok (.iinc 4 1, 3) := by decide +kernel
theorem dX5_canPart_85 : decode cX5_canPart 85 = .ok (.goto (-80), 3) := by decide +kernel
theorem dX5_canPart_88 : decode cX5_canPart 88 = .ok (.iload_n 3, 1) := by decide +kernel
theorem dX5_canPart_89 : decode cX5_canPart 89 = .ok (.ireturn, 1) := by decide +kernel
set_option maxRecDepth 20000 in
theorem ggX5_isSplit_X5_hangsTogether : GoodIn wsX5_isSplit wsX5_hangsTogether := goodIn_r _ [5, 6, 7, 8, 4, 9, 10, 11, 17, 18, 19, 20, 21, 22, 23, 24, 25, 26, 27, 28, 29, 30, 31, 32, 33, 34, 35] (by decide +kernel) (by decide +kernel)
set_option maxRecDepth 20000 in
theorem gX5_isSplit_X5_hangsTogether : GoodIn wsX5_isSplit (wsV RX5 82 RX5 yX5_hangsTogether wsX5_hangsTogether) := goodIn_app (goodIn_of _ (by decide +kernel)) ggX5_isSplit_X5_hangsTogether
set_option maxRecDepth 20000 in
theorem ggX5_isSplit_X5_canPart : GoodIn wsX5_isSplit wsX5_canPart := goodIn_r _ [15, 10, 16, 17, 18, 19, 20, 21, 22, 23, 24, 25, 26, 27, 28, 29, 30, 31, 32, 33, 34, 35] (by decide +kernel) (by decide +kernel)
set_option maxRecDepth 20000 in
theorem gX5_isSplit_X5_canPart : GoodIn wsX5_isSplit (wsV RX5 107 RX5 yX5_canPart wsX5_canPart) := goodIn_app (goodIn_of _ (by decide +kernel)) ggX5_isSplit_X5_canPart
end
section
theorem dX5_isSplit_0 : decode cX5_isSplit 0 = .ok (.iload_n 1, 1) := by decide +kernel
theorem dX5_isSplit_1 : decode cX5_isSplit 1 = .ok (.iload_n 2, 1) := by decide +kernel
theorem dX5_isSplit_2 : decode cX5_isSplit 2 = .ok (.iconst (-1), 1) := by decide +kernel
theorem dX5_isSplit_3 : decode cX5_isSplit 3 = .ok (.ixor, 1) := by decide +kernel
theorem dX5_isSplit_4 : decode cX5_isSplit 4 = .ok (.iand, 1) := by decide +kernel
theorem dX5_isSplit_5 : decode cX5_isSplit 5 = .ok (.istore_n 3, 1) := by decide +kernel
theorem dX5_isSplit_6 : decode cX5_isSplit 6 = .ok (.iload_n 2, 1) := by decide +kernel
theorem dX5_isSplit_7 : decode cX5_isSplit 7 = .ok (.iload_n 1, 1) := by decide +kernel
theorem dX5_isSplit_8 : decode cX5_isSplit 8 = .ok (.iconst (-1), 1) := by decide +kernel
theorem dX5_isSplit_9 : decode cX5_isSplit 9 = .ok (.ixor, 1) := by decide +kernel
theorem dX5_isSplit_10 : decode cX5_isSplit 10 = .ok (.iand, 1) := by decide +kernel
theorem dX5_isSplit_11 : decode cX5_isSplit 11 = .ok (.ifCond .ne 20, 3) := by decide +kernel
theorem dX5_isSplit_14 : decode cX5_isSplit 14 = .ok (.iload_n 3, 1) := by decide +kernel
theorem dX5_isSplit_15 : decode cX5_isSplit 15 = .ok (.ifCond .eq 16, 3) := by decide +kernel
theorem dX5_isSplit_18 : decode cX5_isSplit 18 = .ok (.iload_n 2, 1) := by decide +kernel
theorem dX5_isSplit_19 : decode cX5_isSplit 19 = .ok (.iload_n 1, 1) := by decide +kernel
theorem dX5_isSplit_20 : decode cX5_isSplit 20 = .ok (.iand, 1) := by decide +kernel
theorem dX5_isSplit_21 : decode cX5_isSplit 21 = .ok (.iload_n 1, 1) := by decide +kernel
theorem dX5_isSplit_22 : decode cX5_isSplit 22 = .ok (.ineg, 1) := by decide +kernel
theorem dX5_isSplit_23 : decode cX5_isSplit 23 = .ok (.iand, 1) := by decide +kernel
theorem dX5_isSplit_24 : decode cX5_isSplit 24 = .ok (.ifCond .eq 7, 3) := by decide +kernel
theorem dX5_isSplit_27 : decode cX5_isSplit 27 = .ok (.iconst 1, 1) := by decide +kernel
theorem dX5_isSplit_28 : decode cX5_isSplit 28 = .ok (.goto 4, 3) := by decide +kernel
theorem dX5_isSplit_31 : decode cX5_isSplit 31 = .ok (.iconst 0, 1) := by decide +kernel
theorem dX5_isSplit_32 : decode cX5_isSplit 32 = .ok (.istore 4, 2) := by decide +kernel
theorem dX5_isSplit_34 : decode cX5_isSplit 34 = .ok (.iload 4, 2) := by decide +kernel
theorem dX5_isSplit_36 : decode cX5_isSplit 36 = .ok (.ifCond .eq 32, 3) := by decide +kernel
theorem dX5_isSplit_39 : decode cX5_isSplit 39 = .ok (.aload_n 0, 1) := by decide +kernel
theorem dX5_isSplit_40 : decode cX5_isSplit 40 = .ok (.iload_n 2, 1) := by decide +kernel
theorem dX5_isSplit_41 : decode cX5_isSplit 41 = .ok (.invokevirtual 82, 3) := by decide +kernel
theorem dX5_isSplit_44 : decode cX5_isSplit 44 = .ok (.ifCond .eq 24, 3) := by decide +kernel
theorem dX5_isSplit_47 : decode cX5_isSplit 47 = .ok (.aload_n 0, 1) := by decide +kernel
theorem dX5_isSplit_48 : decode cX5_isSplit 48 = .ok (.iload_n 3, 1) := by decide +kernel
theorem dX5_isSplit_49 : decode cX5_isSplit 49 = .ok (.invokevirtual 82, 3) := by decide +kernel
theorem dX5_isSplit_52 : decode cX5_isSplit 52 = .ok (.ifCond .eq 16, 3) := by decide +kernel
theorem dX5_isSplit_55 : decode cX5_isSplit 55 = .ok (.aload_n 0, 1) := by decide +kernel
theorem dX5_isSplit_56 : decode cX5_isSplit 56 = .ok (.iload_n 2, 1) := by decide +kernel
theorem dX5_isSplit_57 : decode cX5_isSplit 57 = .ok (.iload_n 3, 1) := by decide +kernel
theorem dX5_isSplit_58 : decode cX5_isSplit 58 = .ok (.invokevirtual 107, 3) := by decide +kernel
theorem dX5_isSplit_61 : decode cX5_isSplit 61 = .ok (.ifCond .eq 7, 3) := by decide +kernel
theorem dX5_isSplit_64 : decode cX5_isSplit 64 = .ok (.iconst 1, 1) := by decide +kernel
theorem dX5_isSplit_65 : decode cX5_isSplit 65 = .ok (.goto 4, 3) := by decide +kernel
theorem dX5_isSplit_68 : decode cX5_isSplit 68 = .ok (.iconst 0, 1) := by decide +kernel
theorem dX5_isSplit_69 : decode cX5_isSplit 69 = .ok (.ireturn, 1) := by decide +kernel
set_option maxRecDepth 20000 in
theorem ggX5_splits_X5_isSet : GoodIn wsX5_splits wsX5_isSet := goodIn_r _ [5, 6, 7, 8, 4, 9, 10, 34, 35, 36, 37, 38, 39, 40, 41, 42, 43, 44, 45, 46, 47, 48, 49, 50, 51, 52] (by decide +kernel) (by decide +kernel)
set_option maxRecDepth 20000 in
theorem gX5_splits_X5_isSet : GoodIn wsX5_splits (wsV RX5 88 RX5 yX5_isSet wsX5_isSet) := goodIn_app (goodIn_of _ (by decide +kernel)) ggX5_splits_X5_isSet
set_option maxRecDepth 20000 in
theorem ggX5_splits_X5_holds : GoodIn wsX5_splits wsX5_holds := goodIn_r _ [14, 15, 34, 35, 36, 37, 38, 39, 40, 41, 42, 43, 44, 45, 46, 47, 48, 49, 50, 51, 52] (by decide +kernel) (by decide +kernel)
set_option maxRecDepth 20000 in
theorem gX5_splits_X5_holds : GoodIn wsX5_splits (wsV RX5 51 RX5 yX5_holds wsX5_holds) := goodIn_app (goodIn_of _ (by decide +kernel)) ggX5_splits_X5_holds
set_option maxRecDepth 20000 in
theorem ggX5_splits_X5_hangsTogether : GoodIn wsX5_splits wsX5_hangsTogether := goodIn_r _ [19, 20, 21, 22, 4, 23, 10, 24, 34, 35, 36, 37, 38, 39, 40, 41, 42, 43, 44, 45, 46, 47, 48, 49, 50, 51, 52] (by decide +kernel) (by decide +kernel)
set_option maxRecDepth 20000 in
theorem gX5_splits_X5_hangsTogether : GoodIn wsX5_splits (wsV RX5 82 RX5 yX5_hangsTogether wsX5_hangsTogether) := goodIn_app (goodIn_of _ (by decide +kernel)) ggX5_splits_X5_hangsTogether
set_option maxRecDepth 20000 in
theorem ggX5_splits_X5_isSplit : GoodIn wsX5_splits wsX5_isSplit := goodIn_r _ [28, 16, 17, 18, 4, 19, 20, 21, 22, 23, 10, 24, 29, 30, 31, 32, 33, 34, 35, 36, 37, 38, 39, 40, 41, 42, 43, 44, 45, 46, 47, 48, 49, 50, 51, 52] (by decide +kernel) (by decide +kernel)
set_option maxRecDepth 20000 in
theorem gX5_splits_X5_isSplit : GoodIn wsX5_splits (wsV RX5 110 RX5 yX5_isSplit wsX5_isSplit) := goodIn_app (goodIn_of _ (by decide +kernel)) ggX5_splits_X5_isSplit
theorem dX5_splits_0 : decode cX5_splits 0 = .ok (.aload_n 0, 1) := by decide +kernel
theorem dX5_splits_1 : decode cX5_splits 1 = .ok (.aload_n 0, 1) := by decide +kernel
theorem dX5_splits_2 : decode cX5_splits 2 = .ok (.iload_n 1, 1) := by decide +kernel
theorem dX5_splits_3 : decode cX5_splits 3 = .ok (.invokevirtual 88, 3) := by decide +kernel
theorem dX5_splits_6 : decode cX5_splits 6 = .ok (.ifCond .eq 7, 3) := by decide +kernel
theorem dX5_splits_9 : decode cX5_splits 9 = .ok (.iconst 0, 1) := by decide +kernel
theorem dX5_splits_10 : decode cX5_splits 10 = .ok (.goto 4, 3) := by decide +kernel
theorem dX5_splits_13 : decode cX5_splits 13 = .ok (.iconst 1, 1) := by decide +kernel
theorem dX5_splits_14 : decode cX5_splits 14 = .ok (.invokevirtual 51, 3) := by decide +kernel
theorem dX5_splits_17 : decode cX5_splits 17 = .ok (.ifCond .ne 5, 3) := by decide +kernel
theorem dX5_splits_20 : decode cX5_splits 20 = .ok (.iconst 0, 1) := by decide +kernel
theorem dX5_splits_21 : decode cX5_splits 21 = .ok (.ireturn, 1) := by decide +kernel
theorem dX5_splits_22 : decode cX5_splits 22 = .ok (.iconst 0, 1) := by decide +kernel
theorem dX5_splits_23 : decode cX5_splits 23 = .ok (.istore_n 2, 1) := by decide +kernel
theorem dX5_splits_24 : decode cX5_splits 24 = .ok (.iconst 1, 1) := by decide +kernel
theorem dX5_splits_25 : decode cX5_splits 25 = .ok (.istore_n 3, 1) := by decide +kernel
theorem dX5_splits_26 : decode cX5_splits 26 = .ok (.iload_n 3, 1) := by decide +kernel
theorem dX5_splits_27 : decode cX5_splits 27 = .ok (.iload_n 1, 1) := by decide +kernel
theorem dX5_splits_28 : decode cX5_splits 28 = .ok (.if_icmp .ge 34, 3) := by decide +kernel
theorem dX5_splits_31 : decode cX5_splits 31 = .ok (.aload_n 0, 1) := by decide +kernel
theorem dX5_splits_32 : decode cX5_splits 32 = .ok (.iload_n 1, 1) := by decide +kernel
theorem dX5_splits_33 : decode cX5_splits 33 = .ok (.invokevirtual 82, 3) := by decide +kernel
theorem dX5_splits_36 : decode cX5_splits 36 = .ok (.ifCond .eq 26, 3) := by decide +kernel
theorem dX5_splits_39 : decode cX5_splits 39 = .ok (.iload_n 2, 1) := by decide +kernel
theorem dX5_splits_40 : decode cX5_splits 40 = .ok (.aload_n 0, 1) := by decide +kernel
theorem dX5_splits_41 : decode cX5_splits 41 = .ok (.iload_n 1, 1) := by decide +kernel
theorem dX5_splits_42 : decode cX5_splits 42 = .ok (.iload_n 3, 1) := by decide +kernel
theorem dX5_splits_43 : decode cX5_splits 43 = .ok (.invokevirtual 110, 3) := by decide +kernel
theorem dX5_splits_46 : decode cX5_splits 46 = .ok (.ifCond .eq 7, 3) := by decide +kernel
theorem dX5_splits_49 : decode cX5_splits 49 = .ok (.iconst 1, 1) := by decide +kernel
theorem dX5_splits_50 : decode cX5_splits 50 = .ok (.goto 4, 3) := by decide +kernel
theorem dX5_splits_53 : decode cX5_splits 53 = .ok (.iconst 0, 1) := by decide +kernel
theorem dX5_splits_54 : decode cX5_splits 54 = .ok (.iadd, 1) := by decide +kernel
theorem dX5_splits_55 : decode cX5_splits 55 = .ok (.istore_n 2, 1) := by decide +kernel
theorem dX5_splits_56 : decode cX5_splits 56 = .ok (.iinc 3 1, 3) := by decide +kernel
theorem dX5_splits_59 : decode cX5_splits 59 = .ok (.goto (-33), 3) := by decide +kernel
theorem dX5_splits_62 : decode cX5_splits 62 = .ok (.iload_n 2, 1) := by decide +kernel
theorem dX5_splits_63 : decode cX5_splits 63 = .ok (.ireturn, 1) := by decide +kernel
set_option maxRecDepth 20000 in
theorem ggX5_comesApart_X5_whole : GoodIn wsX5_comesApart wsX5_whole := goodIn_r _ [7, 8, 27, 28, 29, 30, 31, 32, 33, 34, 35, 36, 37, 38, 39, 40, 41, 42, 43, 44, 45] (by decide +kernel) (by decide +kernel)
set_option maxRecDepth 20000 in
theorem gX5_comesApart_X5_whole : GoodIn wsX5_comesApart (wsV RX5 74 RX5 yX5_whole wsX5_whole) := goodIn_app (goodIn_of _ (by decide +kernel)) ggX5_comesApart_X5_whole
set_option maxRecDepth 20000 in
theorem ggX5_comesApart_X5_hangsTogether : GoodIn wsX5_comesApart wsX5_hangsTogether := goodIn_r _ [12, 13, 14, 15, 6, 16, 8, 17, 27, 28, 29, 30, 31, 32, 33, 34, 35, 36, 37, 38, 39, 40, 41, 42, 43, 44, 45] (by decide +kernel) (by decide +kernel)
set_option maxRecDepth 20000 in
theorem gX5_comesApart_X5_hangsTogether : GoodIn wsX5_comesApart (wsV RX5 82 RX5 yX5_hangsTogether wsX5_hangsTogether) := goodIn_app (goodIn_of _ (by decide +kernel)) ggX5_comesApart_X5_hangsTogether
set_option maxRecDepth 20000 in
theorem ggX5_comesApart_X5_isSplit : GoodIn wsX5_comesApart wsX5_isSplit := goodIn_r _ [21, 9, 10, 11, 6, 12, 13, 14, 15, 16, 8, 17, 22, 23, 24, 25, 26, 27, 28, 29, 30, 31, 32, 33, 34, 35, 36, 37, 38, 39, 40, 41, 42, 43, 44, 45] (by decide +kernel) (by decide +kernel)
set_option maxRecDepth 20000 in
theorem gX5_comesApart_X5_isSplit : GoodIn wsX5_comesApart (wsV RX5 110 RX5 yX5_isSplit wsX5_isSplit) := goodIn_app (goodIn_of _ (by decide +kernel)) ggX5_comesApart_X5_isSplit
theorem dX5_comesApart_0 : decode cX5_comesApart 0 = .ok (.iconst 1, 1) := by decide +kernel
theorem dX5_comesApart_1 : decode cX5_comesApart 1 = .ok (.istore_n 1, 1) := by decide +kernel
theorem dX5_comesApart_2 : decode cX5_comesApart 2 = .ok (.iload_n 1, 1) := by decide +kernel
theorem dX5_comesApart_3 : decode cX5_comesApart 3 = .ok (.aload_n 0, 1) := by decide +kernel
theorem dX5_comesApart_4 : decode cX5_comesApart 4 = .ok (.invokevirtual 74, 3) := by decide +kernel
theorem dX5_comesApart_7 : decode cX5_comesApart 7 = .ok (.if_icmp .gt 181, 3) := by decide +kernel
theorem dX5_comesApart_10 : decode cX5_comesApart 10 = .ok (.iload_n 1, 1) := by decide +kernel
theorem dX5_comesApart_11 : decode cX5_comesApart 11 = .ok (.iload_n 1, 1) := by decide +kernel
theorem dX5_comesApart_12 : decode cX5_comesApart 12 = .ok (.iconst 1, 1) := by decide +kernel
theorem dX5_comesApart_13 : decode cX5_comesApart 13 = .ok (.isub, 1) := by decide +kernel
theorem dX5_comesApart_14 : decode cX5_comesApart 14 = .ok (.iand, 1) := by decide +kernel
theorem dX5_comesApart_15 : decode cX5_comesApart 15 = .ok (.ifCond .ne 7, 3) := by decide +kernel
theorem dX5_comesApart_18 : decode cX5_comesApart 18 = .ok (.iconst 1, 1) := by decide +kernel
theorem dX5_comesApart_19 : decode cX5_comesApart 19 = .ok (.goto 4, 3) := by decide +kernel
theorem dX5_comesApart_22 : decode cX5_comesApart 22 = .ok (.iconst 0, 1) := by decide +kernel
theorem dX5_comesApart_23 : decode cX5_comesApart 23 = .ok (.istore_n 2, 1) := by decide +kernel
theorem dX5_comesApart_24 : decode cX5_comesApart 24 = .ok (.aload_n 0, 1) := by decide +kernel
theorem dX5_comesApart_25 : decode cX5_comesApart 25 = .ok (.getfield 25, 3) := by decide +kernel
theorem dX5_comesApart_28 : decode cX5_comesApart 28 = .ok (.iload_n 1, 1) := by decide +kernel
theorem dX5_comesApart_29 : decode cX5_comesApart 29 = .ok (.iload_n 2, 1) := by decide +kernel
theorem dX5_comesApart_30 : decode cX5_comesApart 30 = .ok (.ifCond .eq 7, 3) := by decide +kernel
theorem dX5_comesApart_33 : decode cX5_comesApart 33 = .ok (.iconst 1, 1) := by decide +kernel
theorem dX5_comesApart_34 : decode cX5_comesApart 34 = .ok (.goto 4, 3) := by decide +kernel
theorem dX5_comesApart_37 : decode cX5_comesApart 37 = .ok (.iconst 0, 1) := by decide +kernel
theorem dX5_comesApart_38 : decode cX5_comesApart 38 = .ok (.iastore, 1) := by decide +kernel
theorem dX5_comesApart_39 : decode cX5_comesApart 39 = .ok (.aload_n 0, 1) := by decide +kernel
theorem dX5_comesApart_40 : decode cX5_comesApart 40 = .ok (.getfield 28, 3) := by decide +kernel
theorem dX5_comesApart_43 : decode cX5_comesApart 43 = .ok (.iload_n 1, 1) := by decide +kernel
theorem dX5_comesApart_44 : decode cX5_comesApart 44 = .ok (.iload_n 2, 1) := by decide +kernel
theorem dX5_comesApart_45 : decode cX5_comesApart 45 = .ok (.ifCond .eq 7, 3) := by decide +kernel
theorem dX5_comesApart_48 : decode cX5_comesApart 48 = .ok (.iconst 0, 1) := by decide +kernel
theorem dX5_comesApart_49 : decode cX5_comesApart 49 = .ok (.goto 6, 3) := by decide +kernel
theorem dX5_comesApart_52 : decode cX5_comesApart 52 = .ok (.sipush 1000, 3) := by decide +kernel
theorem dX5_comesApart_55 : decode cX5_comesApart 55 = .ok (.iastore, 1) := by decide +kernel
theorem dX5_comesApart_56 : decode cX5_comesApart 56 = .ok (.iconst 1, 1) := by decide +kernel
theorem dX5_comesApart_57 : decode cX5_comesApart 57 = .ok (.istore_n 3, 1) := by decide +kernel
theorem dX5_comesApart_58 : decode cX5_comesApart 58 = .ok (.iload_n 3, 1) := by decide +kernel
theorem dX5_comesApart_59 : decode cX5_comesApart 59 = .ok (.iload_n 1, 1) := by decide +kernel
theorem dX5_comesApart_60 : decode cX5_comesApart 60 = .ok (.if_icmp .ge 122, 3) := by decide +kernel
theorem dX5_comesApart_63 : decode cX5_comesApart 63 = .ok (.aload_n 0, 1) := by decide +kernel
theorem dX5_comesApart_64 : decode cX5_comesApart 64 = .ok (.iload_n 1, 1) := by decide +kernel
theorem dX5_comesApart_65 : decode cX5_comesApart 65 = .ok (.invokevirtual 82, 3) := by decide +kernel
theorem dX5_comesApart_68 : decode cX5_comesApart 68 = .ok (.ifCond .eq 114, 3) := by decide +kernel
theorem dX5_comesApart_71 : decode cX5_comesApart 71 = .ok (.aload_n 0, 1) := by decide +kernel
theorem dX5_comesApart_72 : decode cX5_comesApart 72 = .ok (.iload_n 1, 1) := by decide +kernel
theorem dX5_comesApart_73 : decode cX5_comesApart 73 = .ok (.iload_n 3, 1) := by decide +kernel
theorem dX5_comesApart_74 : decode cX5_comesApart 74 = .ok (.invokevirtual 110, 3) := by decide +kernel
theorem dX5_comesApart_77 : decode cX5_comesApart 77 = .ok (.ifCond .eq 99, 3) := by decide +kernel
theorem dX5_comesApart_80 : decode cX5_comesApart 80 = .ok (.iload_n 1, 1) := by decide +kernel
theorem dX5_comesApart_81 : decode cX5_comesApart 81 = .ok (.iload_n 3, 1) := by decide +kernel
theorem dX5_comesApart_82 : decode cX5_comesApart 82 = .ok (.iconst (-1), 1) := by decide +kernel
theorem dX5_comesApart_83 : decode cX5_comesApart 83 = .ok (.ixor, 1) := by decide +kernel
theorem dX5_comesApart_84 : decode cX5_comesApart 84 = .ok (.iand, 1) := by decide +kernel
theorem dX5_comesApart_85 : decode cX5_comesApart 85 = .ok (.istore 4, 2) := by decide +kernel
theorem dX5_comesApart_87 : decode cX5_comesApart 87 = .ok (.aload_n 0, 1) := by decide +kernel
theorem dX5_comesApart_88 : decode cX5_comesApart 88 = .ok (.getfield 28, 3) := by decide +kernel
theorem dX5_comesApart_91 : decode cX5_comesApart 91 = .ok (.iload_n 3, 1) := by decide +kernel
theorem dX5_comesApart_92 : decode cX5_comesApart 92 = .ok (.iaload, 1) := by decide +kernel
theorem dX5_comesApart_93 : decode cX5_comesApart 93 = .ok (.aload_n 0, 1) := by decide +kernel
theorem dX5_comesApart_94 : decode cX5_comesApart 94 = .ok (.getfield 28, 3) := by decide +kernel
theorem dX5_comesApart_97 : decode cX5_comesApart 97 = .ok (.iload 4, 2) := by decide +kernel
theorem dX5_comesApart_99 : decode cX5_comesApart 99 = .ok (.iaload, 1) := by decide +kernel
theorem dX5_comesApart_100 : decode cX5_comesApart 100 = .ok (.if_icmp .le 12, 3) := by decide +kernel
theorem dX5_comesApart_103 : decode cX5_comesApart 103 = .ok (.aload_n 0, 1) := by decide +kernel
theorem dX5_comesApart_104 : decode cX5_comesApart 104 = .ok (.getfield 28, 3) := by decide +kernel
theorem dX5_comesApart_107 : decode cX5_comesApart 107 = .ok (.iload_n 3, 1) := by decide +kernel
theorem dX5_comesApart_108 : decode cX5_comesApart 108 = .ok (.iaload, 1) := by decide +kernel
theorem dX5_comesApart_109 : decode cX5_comesApart 109 = .ok (.goto 10, 3) := by decide +kernel
theorem dX5_comesApart_112 : decode cX5_comesApart 112 = .ok (.aload_n 0, 1) := by decide +kernel
theorem dX5_comesApart_113 : decode cX5_comesApart 113 = .ok (.getfield 28, 3) := by decide +kernel
theorem dX5_comesApart_116 : decode cX5_comesApart 116 = .ok (.iload 4, 2) := by decide +kernel
theorem dX5_comesApart_118 : decode cX5_comesApart 118 = .ok (.iaload, 1) := by decide +kernel
theorem dX5_comesApart_119 : decode cX5_comesApart 119 = .ok (.istore 5, 2) := by decide +kernel
theorem dX5_comesApart_121 : decode cX5_comesApart 121 = .ok (.aload_n 0, 1) := by decide +kernel
theorem dX5_comesApart_122 : decode cX5_comesApart 122 = .ok (.getfield 25, 3) := by decide +kernel
theorem dX5_comesApart_125 : decode cX5_comesApart 125 = .ok (.iload_n 1, 1) := by decide +kernel
theorem dX5_comesApart_126 : decode cX5_comesApart 126 = .ok (.dup2, 1) := by decide +kernel
theorem dX5_comesApart_127 : decode cX5_comesApart 127 = .ok (.iaload, 1) := by decide +kernel
theorem dX5_comesApart_128 : decode cX5_comesApart 128 = .ok (.aload_n 0, 1) := by decide +kernel
theorem dX5_comesApart_129 : decode cX5_comesApart 129 = .ok (.getfield 25, 3) := by decide +kernel
theorem dX5_comesApart_132 : decode cX5_comesApart 132 = .ok (.iload_n 3, 1) := by decide +kernel
theorem dX5_comesApart_133 : decode cX5_comesApart 133 = .ok (.iaload, 1) := by decide +kernel
theorem dX5_comesApart_134 : decode cX5_comesApart 134 = .ok (.aload_n 0, 1) := by decide +kernel
theorem dX5_comesApart_135 : decode cX5_comesApart 135 = .ok (.getfield 25, 3) := by decide +kernel
theorem dX5_comesApart_138 : decode cX5_comesApart 138 = .ok (.iload 4, 2) := by decide +kernel
theorem dX5_comesApart_140 : decode cX5_comesApart 140 = .ok (.iaload, 1) := by decide +kernel
theorem dX5_comesApart_141 : decode cX5_comesApart 141 = .ok (.imul, 1) := by decide +kernel
theorem dX5_comesApart_142 : decode cX5_comesApart 142 = .ok (.iadd, 1) := by decide +kernel
theorem dX5_comesApart_143 : decode cX5_comesApart 143 = .ok (.iastore, 1) := by decide +kernel
theorem dX5_comesApart_144 : decode cX5_comesApart 144 = .ok (.aload_n 0, 1) := by decide +kernel
theorem dX5_comesApart_145 : decode cX5_comesApart 145 = .ok (.getfield 28, 3) := by decide +kernel
theorem dX5_comesApart_148 : decode cX5_comesApart 148 = .ok (.iload_n 1, 1) := by decide +kernel
theorem dX5_comesApart_149 : decode cX5_comesApart 149 = .ok (.iload 5, 2) := by decide +kernel
theorem dX5_comesApart_151 : decode cX5_comesApart 151 = .ok (.iconst 1, 1) := by decide +kernel
theorem dX5_comesApart_152 : decode cX5_comesApart 152 = .ok (.iadd, 1) := by decide +kernel
theorem dX5_comesApart_153 : decode cX5_comesApart 153 = .ok (.aload_n 0, 1) := by decide +kernel
theorem dX5_comesApart_154 : decode cX5_comesApart 154 = .ok (.getfield 28, 3) := by decide +kernel
theorem dX5_comesApart_157 : decode cX5_comesApart 157 = .ok (.iload_n 1, 1) := by decide +kernel
theorem dX5_comesApart_158 : decode cX5_comesApart 158 = .ok (.iaload, 1) := by decide +kernel
theorem dX5_comesApart_159 : decode cX5_comesApart 159 = .ok (.if_icmp .ge 10, 3) := by decide +kernel
theorem dX5_comesApart_162 : decode cX5_comesApart 162 = .ok (.iload 5, 2) := by decide +kernel
theorem dX5_comesApart_164 : decode cX5_comesApart 164 = .ok (.iconst 1, 1) := by decide +kernel
theorem dX5_comesApart_165 : decode cX5_comesApart 165 = .ok (.iadd, 1) := by decide +kernel
theorem dX5_comesApart_166 : decode cX5_comesApart 166 = .ok (.goto 9, 3) := by decide +kernel
theorem dX5_comesApart_169 : decode cX5_comesApart 169 = .ok (.aload_n 0, 1) := by decide +kernel
theorem dX5_comesApart_170 : decode cX5_comesApart 170 = .ok (.getfield 28, 3) := by decide +kernel
theorem dX5_comesApart_173 : decode cX5_comesApart 173 = .ok (.iload_n 1, 1) := by decide +kernel
theorem dX5_comesApart_174 : decode cX5_comesApart 174 = .ok (.iaload, 1) := by decide +kernel
theorem dX5_comesApart_175 : decode cX5_comesApart 175 = .ok (.iastore, 1) := by decide +kernel
theorem dX5_comesApart_176 : decode cX5_comesApart 176 = .ok (.iinc 3 1, 3) := by decide +kernel
theorem dX5_comesApart_179 : decode cX5_comesApart 179 = .ok (.goto (-121), 3) := by decide +kernel
theorem dX5_comesApart_182 : decode cX5_comesApart 182 = .ok (.iinc 1 1, 3) := by decide +kernel
theorem dX5_comesApart_185 : decode cX5_comesApart 185 = .ok (.goto (-183), 3) := by decide +kernel
theorem dX5_comesApart_188 : decode cX5_comesApart 188 = .ok (.return_, 1) := by decide +kernel
set_option maxRecDepth 20000 in
theorem ggX5_ways_X5_holds : GoodIn wsX5_ways wsX5_holds := goodIn_r _ [7, 8, 36, 37, 38, 39, 40, 41, 42, 43, 44, 45, 46, 47, 48, 49, 50, 51, 52, 53, 54] (by decide +kernel) (by decide +kernel)
set_option maxRecDepth 20000 in
theorem gX5_ways_X5_holds : GoodIn wsX5_ways (wsV RX5 51 RX5 yX5_holds wsX5_holds) := goodIn_app (goodIn_of _ (by decide +kernel)) ggX5_ways_X5_holds
set_option maxRecDepth 20000 in
theorem ggX5_ways_X5_comesApart : GoodIn wsX5_ways wsX5_comesApart := goodIn_r _ [12, 2, 13, 14, 15, 16, 6, 17, 1, 18, 19, 20, 21, 22, 23, 24, 25, 26, 27, 28, 29, 30, 31, 32, 33, 34, 35, 36, 37, 38, 39, 40, 41, 42, 43, 44, 45, 46, 47, 48, 49, 50, 51, 52, 53, 54] (by decide +kernel) (by decide +kernel)
set_option maxRecDepth 20000 in
theorem gX5_ways_X5_comesApart : GoodIn wsX5_ways (wsV RX5 113 RX5 yX5_comesApart wsX5_comesApart) := goodIn_app (goodIn_of _ (by decide +kernel)) ggX5_ways_X5_comesApart
set_option maxRecDepth 20000 in
theorem ggX5_ways_X5_whole : GoodIn wsX5_ways wsX5_whole := goodIn_r _ [17, 1, 36, 37, 38, 39, 40, 41, 42, 43, 44, 45, 46, 47, 48, 49, 50, 51, 52, 53, 54] (by decide +kernel) (by decide +kernel)
set_option maxRecDepth 20000 in
theorem gX5_ways_X5_whole : GoodIn wsX5_ways (wsV RX5 74 RX5 yX5_whole wsX5_whole) := goodIn_app (goodIn_of _ (by decide +kernel)) ggX5_ways_X5_whole
theorem dX5_ways_0 : decode cX5_ways 0 = .ok (.aload_n 0, 1) := by decide +kernel
theorem dX5_ways_1 : decode cX5_ways 1 = .ok (.aload_n 0, 1) := by decide +kernel
theorem dX5_ways_2 : decode cX5_ways 2 = .ok (.getfield 44, 3) := by decide +kernel
theorem dX5_ways_5 : decode cX5_ways 5 = .ok (.ifCond .ne 7, 3) := by decide +kernel
theorem dX5_ways_8 : decode cX5_ways 8 = .ok (.iconst 1, 1) := by decide +kernel
theorem dX5_ways_9 : decode cX5_ways 9 = .ok (.goto 4, 3) := by decide +kernel
theorem dX5_ways_12 : decode cX5_ways 12 = .ok (.iconst 0, 1) := by decide +kernel
theorem dX5_ways_13 : decode cX5_ways 13 = .ok (.invokevirtual 51, 3) := by decide +kernel
theorem dX5_ways_16 : decode cX5_ways 16 = .ok (.ifCond .ne 5, 3) := by decide +kernel
theorem dX5_ways_19 : decode cX5_ways 19 = .ok (.iconst 0, 1) := by decide +kernel
theorem dX5_ways_20 : decode cX5_ways 20 = .ok (.ireturn, 1) := by decide +kernel
theorem dX5_ways_21 : decode cX5_ways 21 = .ok (.aload_n 0, 1) := by decide +kernel
theorem dX5_ways_22 : decode cX5_ways 22 = .ok (.invokevirtual 113, 3) := by decide +kernel
theorem dX5_ways_25 : decode cX5_ways 25 = .ok (.aload_n 0, 1) := by decide +kernel
theorem dX5_ways_26 : decode cX5_ways 26 = .ok (.getfield 25, 3) := by decide +kernel
theorem dX5_ways_29 : decode cX5_ways 29 = .ok (.aload_n 0, 1) := by decide +kernel
theorem dX5_ways_30 : decode cX5_ways 30 = .ok (.invokevirtual 74, 3) := by decide +kernel
theorem dX5_ways_33 : decode cX5_ways 33 = .ok (.iaload, 1) := by decide +kernel
theorem dX5_ways_34 : decode cX5_ways 34 = .ok (.ireturn, 1) := by decide +kernel
set_option maxRecDepth 20000 in
theorem ggX5_leastDepth_X5_holds : GoodIn wsX5_leastDepth wsX5_holds := goodIn_r _ [7, 8, 36, 37, 38, 39, 40, 41, 42, 43, 44, 45, 46, 47, 48, 49, 50, 51, 52, 53, 54] (by decide +kernel) (by decide +kernel)
set_option maxRecDepth 20000 in
theorem gX5_leastDepth_X5_holds : GoodIn wsX5_leastDepth (wsV RX5 51 RX5 yX5_holds wsX5_holds) := goodIn_app (goodIn_of _ (by decide +kernel)) ggX5_leastDepth_X5_holds
set_option maxRecDepth 20000 in
theorem ggX5_leastDepth_X5_comesApart : GoodIn wsX5_leastDepth wsX5_comesApart := goodIn_r _ [12, 13, 2, 14, 15, 16, 6, 17, 1, 18, 19, 20, 21, 22, 23, 24, 25, 26, 27, 28, 29, 30, 31, 32, 33, 34, 35, 36, 37, 38, 39, 40, 41, 42, 43, 44, 45, 46, 47, 48, 49, 50, 51, 52, 53, 54] (by decide +kernel) (by decide +kernel)
set_option maxRecDepth 20000 in
theorem gX5_leastDepth_X5_comesApart : GoodIn wsX5_leastDepth (wsV RX5 113 RX5 yX5_comesApart wsX5_comesApart) := goodIn_app (goodIn_of _ (by decide +kernel)) ggX5_leastDepth_X5_comesApart
set_option maxRecDepth 20000 in
theorem ggX5_leastDepth_X5_whole : GoodIn wsX5_leastDepth wsX5_whole := goodIn_r _ [17, 1, 36, 37, 38, 39, 40, 41, 42, 43, 44, 45, 46, 47, 48, 49, 50, 51, 52, 53, 54] (by decide +kernel) (by decide +kernel)
set_option maxRecDepth 20000 in
theorem gX5_leastDepth_X5_whole : GoodIn wsX5_leastDepth (wsV RX5 74 RX5 yX5_whole wsX5_whole) := goodIn_app (goodIn_of _ (by decide +kernel)) ggX5_leastDepth_X5_whole
theorem dX5_leastDepth_0 : decode cX5_leastDepth 0 = .ok (.aload_n 0, 1) := by decide +kernel
theorem dX5_leastDepth_1 : decode cX5_leastDepth 1 = .ok (.aload_n 0, 1) := by decide +kernel
theorem dX5_leastDepth_2 : decode cX5_leastDepth 2 = .ok (.getfield 44, 3) := by decide +kernel
theorem dX5_leastDepth_5 : decode cX5_leastDepth 5 = .ok (.ifCond .ne 7, 3) := by decide +kernel
theorem dX5_leastDepth_8 : decode cX5_leastDepth 8 = .ok (.iconst 1, 1) := by decide +kernel
theorem dX5_leastDepth_9 : decode cX5_leastDepth 9 = .ok (.goto 4, 3) := by decide +kernel
theorem dX5_leastDepth_12 : decode cX5_leastDepth 12 = .ok (.iconst 0, 1) := by decide +kernel
theorem dX5_leastDepth_13 : decode cX5_leastDepth 13 = .ok (.invokevirtual 51, 3) := by decide +kernel
theorem dX5_leastDepth_16 : decode cX5_leastDepth 16 = .ok (.ifCond .ne 5, 3) := by decide +kernel
theorem dX5_leastDepth_19 : decode cX5_leastDepth 19 = .ok (.iconst 0, 1) := by decide +kernel
theorem dX5_leastDepth_20 : decode cX5_leastDepth 20 = .ok (.ireturn, 1) := by decide +kernel
theorem dX5_leastDepth_21 : decode cX5_leastDepth 21 = .ok (.aload_n 0, 1) := by decide +kernel
theorem dX5_leastDepth_22 : decode cX5_leastDepth 22 = .ok (.invokevirtual 113, 3) := by decide +kernel
theorem dX5_leastDepth_25 : decode cX5_leastDepth 25 = .ok (.aload_n 0, 1) := by decide +kernel
theorem dX5_leastDepth_26 : decode cX5_leastDepth 26 = .ok (.getfield 28, 3) := by decide +kernel
theorem dX5_leastDepth_29 : decode cX5_leastDepth 29 = .ok (.aload_n 0, 1) := by decide +kernel
theorem dX5_leastDepth_30 : decode cX5_leastDepth 30 = .ok (.invokevirtual 74, 3) := by decide +kernel
theorem dX5_leastDepth_33 : decode cX5_leastDepth 33 = .ok (.iaload, 1) := by decide +kernel
theorem dX5_leastDepth_34 : decode cX5_leastDepth 34 = .ok (.sipush 1000, 3) := by decide +kernel
theorem dX5_leastDepth_37 : decode cX5_leastDepth 37 = .ok (.if_icmp .ge 15, 3) := by decide +kernel
theorem dX5_leastDepth_40 : decode cX5_leastDepth 40 = .ok (.aload_n 0, 1) := by decide +kernel
theorem dX5_leastDepth_41 : decode cX5_leastDepth 41 = .ok (.getfield 28, 3) := by decide +kernel
theorem dX5_leastDepth_44 : decode cX5_leastDepth 44 = .ok (.aload_n 0, 1) := by decide +kernel
theorem dX5_leastDepth_45 : decode cX5_leastDepth 45 = .ok (.invokevirtual 74, 3) := by decide +kernel
theorem dX5_leastDepth_48 : decode cX5_leastDepth 48 = .ok (.iaload, 1) := by decide +kernel
theorem dX5_leastDepth_49 : decode cX5_leastDepth 49 = .ok (.goto 4, 3) := by decide +kernel
theorem dX5_leastDepth_52 : decode cX5_leastDepth 52 = .ok (.iconst (-1), 1) := by decide +kernel
theorem dX5_leastDepth_53 : decode cX5_leastDepth 53 = .ok (.ireturn, 1) := by decide +kernel
set_option maxRecDepth 20000 in
theorem ggX5_canAdd_X5_isSound : GoodIn wsX5_canAdd wsX5_isSound := goodIn_r _ [5, 6, 7, 8, 9, 4, 10, 11, 12, 13, 14, 15, 16, 17, 18, 19, 20, 21, 22, 27, 28, 29, 30, 31, 32, 33, 34, 35, 36, 37, 38, 39, 40, 41, 42, 43, 44, 45] (by decide +kernel) (by decide +kernel)
set_option maxRecDepth 20000 in
theorem gX5_canAdd_X5_isSound : GoodIn wsX5_canAdd (wsV RX5 98 RX5 yX5_isSound wsX5_isSound) := goodIn_app (goodIn_of _ (by decide +kernel)) ggX5_canAdd_X5_isSound
set_option maxRecDepth 20000 in
theorem ggX5_canAdd_X5_freeOf : GoodIn wsX5_canAdd wsX5_freeOf := goodIn_r _ [26, 22, 27, 28, 29, 30, 31, 32, 33, 34, 35, 36, 37, 38, 39, 40, 41, 42, 43, 44, 45] (by decide +kernel) (by decide +kernel)
set_option maxRecDepth 20000 in
theorem gX5_canAdd_X5_freeOf : GoodIn wsX5_canAdd (wsV RX5 95 RX5 yX5_freeOf wsX5_freeOf) := goodIn_app (goodIn_of _ (by decide +kernel)) ggX5_canAdd_X5_freeOf
theorem dX5_canAdd_0 : decode cX5_canAdd 0 = .ok (.iload_n 1, 1) := by decide +kernel
theorem dX5_canAdd_1 : decode cX5_canAdd 1 = .ok (.iconst 1, 1) := by decide +kernel
theorem dX5_canAdd_2 : decode cX5_canAdd 2 = .ok (.iload_n 2, 1) := by decide +kernel
theorem dX5_canAdd_3 : decode cX5_canAdd 3 = .ok (.ishl, 1) := by decide +kernel
theorem dX5_canAdd_4 : decode cX5_canAdd 4 = .ok (.ior, 1) := by decide +kernel
theorem dX5_canAdd_5 : decode cX5_canAdd 5 = .ok (.istore_n 3, 1) := by decide +kernel
theorem dX5_canAdd_6 : decode cX5_canAdd 6 = .ok (.iload_n 3, 1) := by decide +kernel
theorem dX5_canAdd_7 : decode cX5_canAdd 7 = .ok (.iload_n 1, 1) := by decide +kernel
theorem dX5_canAdd_8 : decode cX5_canAdd 8 = .ok (.if_icmp .eq 32, 3) := by decide +kernel
theorem dX5_canAdd_11 : decode cX5_canAdd 11 = .ok (.aload_n 0, 1) := by decide +kernel
theorem dX5_canAdd_12 : decode cX5_canAdd 12 = .ok (.iload_n 1, 1) := by decide +kernel
theorem dX5_canAdd_13 : decode cX5_canAdd 13 = .ok (.invokevirtual 98, 3) := by decide +kernel
theorem dX5_canAdd_16 : decode cX5_canAdd 16 = .ok (.ifCond .eq 24, 3) := by decide +kernel
theorem dX5_canAdd_19 : decode cX5_canAdd 19 = .ok (.aload_n 0, 1) := by decide +kernel
theorem dX5_canAdd_20 : decode cX5_canAdd 20 = .ok (.iload_n 3, 1) := by decide +kernel
theorem dX5_canAdd_21 : decode cX5_canAdd 21 = .ok (.invokevirtual 98, 3) := by decide +kernel
theorem dX5_canAdd_24 : decode cX5_canAdd 24 = .ok (.ifCond .eq 16, 3) := by decide +kernel
theorem dX5_canAdd_27 : decode cX5_canAdd 27 = .ok (.aload_n 0, 1) := by decide +kernel
theorem dX5_canAdd_28 : decode cX5_canAdd 28 = .ok (.iload_n 3, 1) := by decide +kernel
theorem dX5_canAdd_29 : decode cX5_canAdd 29 = .ok (.iload_n 2, 1) := by decide +kernel
theorem dX5_canAdd_30 : decode cX5_canAdd 30 = .ok (.invokevirtual 95, 3) := by decide +kernel
theorem dX5_canAdd_33 : decode cX5_canAdd 33 = .ok (.ifCond .eq 7, 3) := by decide +kernel
theorem dX5_canAdd_36 : decode cX5_canAdd 36 = .ok (.iconst 1, 1) := by decide +kernel
theorem dX5_canAdd_37 : decode cX5_canAdd 37 = .ok (.goto 4, 3) := by decide +kernel
theorem dX5_canAdd_40 : decode cX5_canAdd 40 = .ok (.iconst 0, 1) := by decide +kernel
theorem dX5_canAdd_41 : decode cX5_canAdd 41 = .ok (.ireturn, 1) := by decide +kernel
set_option maxRecDepth 20000 in
theorem ggX5_orders_X5_holds : GoodIn wsX5_orders wsX5_holds := goodIn_r _ [7, 8, 41, 42, 43, 44, 45, 46, 47, 48, 49, 50, 51, 52, 53, 54, 55, 56, 57, 58, 59] (by decide +kernel) (by decide +kernel)
set_option maxRecDepth 20000 in
theorem gX5_orders_X5_holds : GoodIn wsX5_orders (wsV RX5 51 RX5 yX5_holds wsX5_holds) := goodIn_app (goodIn_of _ (by decide +kernel)) ggX5_orders_X5_holds
set_option maxRecDepth 20000 in
theorem ggX5_orders_X5_whole : GoodIn wsX5_orders wsX5_whole := goodIn_r _ [12, 1, 41, 42, 43, 44, 45, 46, 47, 48, 49, 50, 51, 52, 53, 54, 55, 56, 57, 58, 59] (by decide +kernel) (by decide +kernel)
set_option maxRecDepth 20000 in
theorem gX5_orders_X5_whole : GoodIn wsX5_orders (wsV RX5 74 RX5 yX5_whole wsX5_whole) := goodIn_app (goodIn_of _ (by decide +kernel)) ggX5_orders_X5_whole
set_option maxRecDepth 20000 in
theorem ggX5_orders_X5_canAdd : GoodIn wsX5_orders wsX5_canAdd := goodIn_r _ [16, 17, 18, 19, 6, 20, 21, 22, 23, 24, 25, 26, 27, 28, 29, 1, 30, 31, 32, 33, 34, 35, 36, 37, 38, 39, 40, 41, 42, 43, 44, 45, 46, 47, 48, 49, 50, 51, 52, 53, 54, 55, 56, 57, 58, 59] (by decide +kernel) (by decide +kernel)
set_option maxRecDepth 20000 in
theorem gX5_orders_X5_canAdd : GoodIn wsX5_orders (wsV RX5 116 RX5 yX5_canAdd wsX5_canAdd) := goodIn_app (goodIn_of _ (by decide +kernel)) ggX5_orders_X5_canAdd
theorem dX5_orders_0 : decode cX5_orders 0 = .ok (.aload_n 0, 1) := by decide +kernel
theorem dX5_orders_1 : decode cX5_orders 1 = .ok (.aload_n 0, 1) := by decide +kernel
theorem dX5_orders_2 : decode cX5_orders 2 = .ok (.getfield 44, 3) := by decide +kernel
theorem dX5_orders_5 : decode cX5_orders 5 = .ok (.ifCond .ne 7, 3) := by decide +kernel
theorem dX5_orders_8 : decode cX5_orders 8 = .ok (.iconst 1, 1) := by decide +kernel
theorem dX5_orders_9 : decode cX5_orders 9 = .ok (.goto 4, 3) := by decide +kernel
theorem dX5_orders_12 : decode cX5_orders 12 = .ok (.iconst 0, 1) := by decide +kernel
theorem dX5_orders_13 : decode cX5_orders 13 = .ok (.invokevirtual 51, 3) := by decide +kernel
theorem dX5_orders_16 : decode cX5_orders 16 = .ok (.ifCond .ne 5, 3) := by decide +kernel
theorem dX5_orders_19 : decode cX5_orders 19 = .ok (.iconst 0, 1) := by decide +kernel
theorem dX5_orders_20 : decode cX5_orders 20 = .ok (.ireturn, 1) := by decide +kernel
theorem dX5_orders_21 : decode cX5_orders 21 = .ok (.iconst 0, 1) := by decide +kernel
theorem dX5_orders_22 : decode cX5_orders 22 = .ok (.istore_n 1, 1) := by decide +kernel
theorem dX5_orders_23 : decode cX5_orders 23 = .ok (.iload_n 1, 1) := by decide +kernel
theorem dX5_orders_24 : decode cX5_orders 24 = .ok (.aload_n 0, 1) := by decide +kernel
theorem dX5_orders_25 : decode cX5_orders 25 = .ok (.invokevirtual 74, 3) := by decide +kernel
theorem dX5_orders_28 : decode cX5_orders 28 = .ok (.if_icmp .gt 81, 3) := by decide +kernel
theorem dX5_orders_31 : decode cX5_orders 31 = .ok (.aload_n 0, 1) := by decide +kernel
theorem dX5_orders_32 : decode cX5_orders 32 = .ok (.getfield 31, 3) := by decide +kernel
theorem dX5_orders_35 : decode cX5_orders 35 = .ok (.iload_n 1, 1) := by decide +kernel
theorem dX5_orders_36 : decode cX5_orders 36 = .ok (.iload_n 1, 1) := by decide +kernel
theorem dX5_orders_37 : decode cX5_orders 37 = .ok (.ifCond .ne 7, 3) := by decide +kernel
theorem dX5_orders_40 : decode cX5_orders 40 = .ok (.iconst 1, 1) := by decide +kernel
theorem dX5_orders_41 : decode cX5_orders 41 = .ok (.goto 4, 3) := by decide +kernel
theorem dX5_orders_44 : decode cX5_orders 44 = .ok (.iconst 0, 1) := by decide +kernel
theorem dX5_orders_45 : decode cX5_orders 45 = .ok (.iastore, 1) := by decide +kernel
theorem dX5_orders_46 : decode cX5_orders 46 = .ok (.iconst 0, 1) := by decide +kernel
theorem dX5_orders_47 : decode cX5_orders 47 = .ok (.istore_n 2, 1) := by decide +kernel
theorem dX5_orders_48 : decode cX5_orders 48 = .ok (.iload_n 2, 1) := by decide +kernel
theorem dX5_orders_49 : decode cX5_orders 49 = .ok (.aload_n 0, 1) := by decide +kernel
theorem dX5_orders_50 : decode cX5_orders 50 = .ok (.getfield 44, 3) := by decide +kernel
theorem dX5_orders_53 : decode cX5_orders 53 = .ok (.if_icmp .ge 50, 3) := by decide +kernel
theorem dX5_orders_56 : decode cX5_orders 56 = .ok (.iload_n 1, 1) := by decide +kernel
theorem dX5_orders_57 : decode cX5_orders 57 = .ok (.iconst 1, 1) := by decide +kernel
theorem dX5_orders_58 : decode cX5_orders 58 = .ok (.iload_n 2, 1) := by decide +kernel
theorem dX5_orders_59 : decode cX5_orders 59 = .ok (.ishl, 1) := by decide +kernel
theorem dX5_orders_60 : decode cX5_orders 60 = .ok (.iconst (-1), 1) := by decide +kernel
theorem dX5_orders_61 : decode cX5_orders 61 = .ok (.ixor, 1) := by decide +kernel
theorem dX5_orders_62 : decode cX5_orders 62 = .ok (.iand, 1) := by decide +kernel
theorem dX5_orders_63 : decode cX5_orders 63 = .ok (.istore_n 3, 1) := by decide +kernel
theorem dX5_orders_64 : decode cX5_orders 64 = .ok (.aload_n 0, 1) := by decide +kernel
theorem dX5_orders_65 : decode cX5_orders 65 = .ok (.getfield 31, 3) := by decide +kernel
theorem dX5_orders_68 : decode cX5_orders 68 = .ok (.iload_n 1, 1) := by decide +kernel
theorem dX5_orders_69 : decode cX5_orders 69 = .ok (.dup2, 1) := by decide +kernel
theorem dX5_orders_70 : decode cX5_orders 70 = .ok (.iaload, 1) := by decide +kernel
theorem dX5_orders_71 : decode cX5_orders 71 = .ok (.iload_n 3, 1) := by decide +kernel
theorem dX5_orders_72 : decode cX5_orders 72 = .ok (.iload_n 1, 1) := by decide +kernel
theorem dX5_orders_73 : decode cX5_orders 73 = .ok (.if_icmp .eq 21, 3) := by decide +kernel
theorem dX5_orders_76 : decode cX5_orders 76 = .ok (.aload_n 0, 1) := by decide +kernel
theorem dX5_orders_77 : decode cX5_orders 77 = .ok (.iload_n 3, 1) := by decide +kernel
theorem dX5_orders_78 : decode cX5_orders 78 = .ok (.iload_n 2, 1) := by decide +kernel
theorem dX5_orders_79 : decode cX5_orders 79 = .ok (.invokevirtual 116, 3) := by decide +kernel
theorem dX5_orders_82 : decode cX5_orders 82 = .ok (.ifCond .eq 12, 3) := by decide +kernel
theorem dX5_orders_85 : decode cX5_orders 85 = .ok (.aload_n 0, 1) := by decide +kernel
theorem dX5_orders_86 : decode cX5_orders 86 = .ok (.getfield 31, 3) := by decide +kernel
theorem dX5_orders_89 : decode cX5_orders 89 = .ok (.iload_n 3, 1) := by decide +kernel
theorem dX5_orders_90 : decode cX5_orders 90 = .ok (.iaload, 1) := by decide +kernel
theorem dX5_orders_91 : decode cX5_orders 91 = .ok (.goto 4, 3) := by decide +kernel
theorem dX5_orders_94 : decode cX5_orders 94 = .ok (.iconst 0, 1) := by decide +kernel
theorem dX5_orders_95 : decode cX5_orders 95 = .ok (.iadd, 1) := by decide +kernel
theorem dX5_orders_96 : decode cX5_orders 96 = .ok (.iastore, 1) := by decide +kernel
theorem dX5_orders_97 : decode cX5_orders 97 = .ok (.iinc 2 1, 3) := by decide +kernel
theorem dX5_orders_100 : decode cX5_orders 100 = .ok (.goto (-52), 3) := by decide +kernel
theorem dX5_orders_103 : decode cX5_orders 103 = .ok (.iinc 1 1, 3) := by decide +kernel
theorem dX5_orders_106 : decode cX5_orders 106 = .ok (.goto (-83), 3) := by decide +kernel
theorem dX5_orders_109 : decode cX5_orders 109 = .ok (.aload_n 0, 1) := by decide +kernel
theorem dX5_orders_110 : decode cX5_orders 110 = .ok (.getfield 31, 3) := by decide +kernel
theorem dX5_orders_113 : decode cX5_orders 113 = .ok (.aload_n 0, 1) := by decide +kernel
theorem dX5_orders_114 : decode cX5_orders 114 = .ok (.invokevirtual 74, 3) := by decide +kernel
theorem dX5_orders_117 : decode cX5_orders 117 = .ok (.iaload, 1) := by decide +kernel
theorem dX5_orders_118 : decode cX5_orders 118 = .ok (.ireturn, 1) := by decide +kernel
set_option maxRecDepth 20000 in
theorem ggX5_laysChanges_X5_whole : GoodIn wsX5_laysChanges wsX5_whole := goodIn_r _ [8, 1, 37, 38, 39, 40, 41, 42, 43, 44, 45, 46, 47, 48, 49, 50, 51, 52, 53, 54, 55] (by decide +kernel) (by decide +kernel)
set_option maxRecDepth 20000 in
theorem gX5_laysChanges_X5_whole : GoodIn wsX5_laysChanges (wsV RX5 74 RX5 yX5_whole wsX5_whole) := goodIn_app (goodIn_of _ (by decide +kernel)) ggX5_laysChanges_X5_whole
set_option maxRecDepth 20000 in
theorem ggX5_laysChanges_X5_canAdd : GoodIn wsX5_laysChanges wsX5_canAdd := goodIn_r _ [12, 13, 14, 15, 7, 16, 17, 18, 19, 20, 21, 22, 23, 24, 25, 1, 26, 27, 28, 29, 30, 31, 32, 33, 34, 35, 36, 37, 38, 39, 40, 41, 42, 43, 44, 45, 46, 47, 48, 49, 50, 51, 52, 53, 54, 55] (by decide +kernel) (by decide +kernel)
set_option maxRecDepth 20000 in
theorem gX5_laysChanges_X5_canAdd : GoodIn wsX5_laysChanges (wsV RX5 116 RX5 yX5_canAdd wsX5_canAdd) := goodIn_app (goodIn_of _ (by decide +kernel)) ggX5_laysChanges_X5_canAdd
theorem dX5_laysChanges_0 : decode cX5_laysChanges 0 = .ok (.aload_n 0, 1) := by decide +kernel
theorem dX5_laysChanges_1 : decode cX5_laysChanges 1 = .ok (.invokevirtual 74, 3) := by decide +kernel
theorem dX5_laysChanges_4 : decode cX5_laysChanges 4 = .ok (.istore_n 1, 1) := by decide +kernel
theorem dX5_laysChanges_5 : decode cX5_laysChanges 5 = .ok (.iload_n 1, 1) := by decide +kernel
theorem dX5_laysChanges_6 : decode cX5_laysChanges 6 = .ok (.ifCond .le 206, 3) := by decide +kernel
theorem dX5_laysChanges_9 : decode cX5_laysChanges 9 = .ok (.iconst 0, 1) := by decide +kernel
theorem dX5_laysChanges_10 : decode cX5_laysChanges 10 = .ok (.istore_n 2, 1) := by decide +kernel
theorem dX5_laysChanges_11 : decode cX5_laysChanges 11 = .ok (.iload_n 2, 1) := by decide +kernel
theorem dX5_laysChanges_12 : decode cX5_laysChanges 12 = .ok (.aload_n 0, 1) := by decide +kernel
theorem dX5_laysChanges_13 : decode cX5_laysChanges 13 = .ok (.getfield 44, 3) := by decide +kernel
theorem dX5_laysChanges_16 : decode cX5_laysChanges 16 = .ok (.if_icmp .ge 190, 3) := by decide +kernel
theorem dX5_laysChanges_19 : decode cX5_laysChanges 19 = .ok (.iload_n 1, 1) := by decide +kernel
theorem dX5_laysChanges_20 : decode cX5_laysChanges 20 = .ok (.iload_n 2, 1) := by decide +kernel
theorem dX5_laysChanges_21 : decode cX5_laysChanges 21 = .ok (.ishr, 1) := by decide +kernel
theorem dX5_laysChanges_22 : decode cX5_laysChanges 22 = .ok (.iconst 1, 1) := by decide +kernel
theorem dX5_laysChanges_23 : decode cX5_laysChanges 23 = .ok (.iand, 1) := by decide +kernel
theorem dX5_laysChanges_24 : decode cX5_laysChanges 24 = .ok (.iconst 1, 1) := by decide +kernel
theorem dX5_laysChanges_25 : decode cX5_laysChanges 25 = .ok (.if_icmp .ne 22, 3) := by decide +kernel
theorem dX5_laysChanges_28 : decode cX5_laysChanges 28 = .ok (.aload_n 0, 1) := by decide +kernel
theorem dX5_laysChanges_29 : decode cX5_laysChanges 29 = .ok (.iload_n 1, 1) := by decide +kernel
theorem dX5_laysChanges_30 : decode cX5_laysChanges 30 = .ok (.iconst 1, 1) := by decide +kernel
theorem dX5_laysChanges_31 : decode cX5_laysChanges 31 = .ok (.iload_n 2, 1) := by decide +kernel
theorem dX5_laysChanges_32 : decode cX5_laysChanges 32 = .ok (.ishl, 1) := by decide +kernel
theorem dX5_laysChanges_33 : decode cX5_laysChanges 33 = .ok (.iconst (-1), 1) := by decide +kernel
theorem dX5_laysChanges_34 : decode cX5_laysChanges 34 = .ok (.ixor, 1) := by decide +kernel
theorem dX5_laysChanges_35 : decode cX5_laysChanges 35 = .ok (.iand, 1) := by decide +kernel
theorem dX5_laysChanges_36 : decode cX5_laysChanges 36 = .ok (.iload_n 2, 1) := by decide +kernel
theorem dX5_laysChanges_37 : decode cX5_laysChanges 37 = .ok (.invokevirtual 116, 3) := by decide +kernel
theorem dX5_laysChanges_40 : decode cX5_laysChanges 40 = .ok (.ifCond .eq 7, 3) := by decide +kernel
theorem dX5_laysChanges_43 : decode cX5_laysChanges 43 = .ok (.iconst 1, 1) := by decide +kernel
theorem dX5_laysChanges_44 : decode cX5_laysChanges 44 = .ok (.goto 4, 3) := by decide +kernel
theorem dX5_laysChanges_47 : decode cX5_laysChanges 47 = .ok (.iconst 0, 1) := by decide +kernel
theorem dX5_laysChanges_48 : decode cX5_laysChanges 48 = .ok (.istore_n 3, 1) := by decide +kernel
theorem dX5_laysChanges_49 : decode cX5_laysChanges 49 = .ok (.aload_n 0, 1) := by decide +kernel
theorem dX5_laysChanges_50 : decode cX5_laysChanges 50 = .ok (.getfield 34, 3) := by decide +kernel
theorem dX5_laysChanges_53 : decode cX5_laysChanges 53 = .ok (.bipush 8, 2) := by decide +kernel
theorem dX5_laysChanges_55 : decode cX5_laysChanges 55 = .ok (.iload_n 1, 1) := by decide +kernel
theorem dX5_laysChanges_56 : decode cX5_laysChanges 56 = .ok (.imul, 1) := by decide +kernel
theorem dX5_laysChanges_57 : decode cX5_laysChanges 57 = .ok (.iload_n 2, 1) := by decide +kernel
theorem dX5_laysChanges_58 : decode cX5_laysChanges 58 = .ok (.iadd, 1) := by decide +kernel
theorem dX5_laysChanges_59 : decode cX5_laysChanges 59 = .ok (.iload_n 3, 1) := by decide +kernel
theorem dX5_laysChanges_60 : decode cX5_laysChanges 60 = .ok (.ifCond .ne 9, 3) := by decide +kernel
theorem dX5_laysChanges_63 : decode cX5_laysChanges 63 = .ok (.sipush 1000, 3) := by decide +kernel
theorem dX5_laysChanges_66 : decode cX5_laysChanges 66 = .ok (.goto 18, 3) := by decide +kernel
theorem dX5_laysChanges_69 : decode cX5_laysChanges 69 = .ok (.iload_n 1, 1) := by decide +kernel
theorem dX5_laysChanges_70 : decode cX5_laysChanges 70 = .ok (.aload_n 0, 1) := by decide +kernel
theorem dX5_laysChanges_71 : decode cX5_laysChanges 71 = .ok (.invokevirtual 74, 3) := by decide +kernel
theorem dX5_laysChanges_74 : decode cX5_laysChanges 74 = .ok (.if_icmp .ne 7, 3) := by decide +kernel
theorem dX5_laysChanges_77 : decode cX5_laysChanges 77 = .ok (.iconst 0, 1) := by decide +kernel
theorem dX5_laysChanges_78 : decode cX5_laysChanges 78 = .ok (.goto 6, 3) := by decide +kernel
theorem dX5_laysChanges_81 : decode cX5_laysChanges 81 = .ok (.sipush 1000, 3) := by decide +kernel
theorem dX5_laysChanges_84 : decode cX5_laysChanges 84 = .ok (.iastore, 1) := by decide +kernel
theorem dX5_laysChanges_85 : decode cX5_laysChanges 85 = .ok (.iconst 0, 1) := by decide +kernel
theorem dX5_laysChanges_86 : decode cX5_laysChanges 86 = .ok (.istore 4, 2) := by decide +kernel
theorem dX5_laysChanges_88 : decode cX5_laysChanges 88 = .ok (.iload 4, 2) := by decide +kernel
theorem dX5_laysChanges_90 : decode cX5_laysChanges 90 = .ok (.aload_n 0, 1) := by decide +kernel
theorem dX5_laysChanges_91 : decode cX5_laysChanges 91 = .ok (.getfield 44, 3) := by decide +kernel
theorem dX5_laysChanges_94 : decode cX5_laysChanges 94 = .ok (.if_icmp .ge 106, 3) := by decide +kernel
theorem dX5_laysChanges_97 : decode cX5_laysChanges 97 = .ok (.iload_n 3, 1) := by decide +kernel
theorem dX5_laysChanges_98 : decode cX5_laysChanges 98 = .ok (.ifCond .eq 102, 3) := by decide +kernel
theorem dX5_laysChanges_101 : decode cX5_laysChanges 101 = .ok (.iload_n 1, 1) := by decide +kernel
theorem dX5_laysChanges_102 : decode cX5_laysChanges 102 = .ok (.iload 4, 2) := by decide +kernel
theorem dX5_laysChanges_104 : decode cX5_laysChanges 104 = .ok (.ishr, 1) := by decide +kernel
theorem dX5_laysChanges_105 : decode cX5_laysChanges 105 = .ok (.iconst 1, 1) := by decide +kernel
theorem dX5_laysChanges_106 : decode cX5_laysChanges 106 = .ok (.iand, 1) := by decide +kernel
theorem dX5_laysChanges_107 : decode cX5_laysChanges 107 = .ok (.ifCond .ne 87, 3) := by decide +kernel
theorem dX5_laysChanges_110 : decode cX5_laysChanges 110 = .ok (.aload_n 0, 1) := by decide +kernel
theorem dX5_laysChanges_111 : decode cX5_laysChanges 111 = .ok (.getfield 34, 3) := by decide +kernel
theorem dX5_laysChanges_114 : decode cX5_laysChanges 114 = .ok (.bipush 8, 2) := by decide +kernel
theorem dX5_laysChanges_116 : decode cX5_laysChanges 116 = .ok (.iload_n 1, 1) := by decide +kernel
theorem dX5_laysChanges_117 : decode cX5_laysChanges 117 = .ok (.iconst 1, 1) := by decide +kernel
theorem dX5_laysChanges_118 : decode cX5_laysChanges 118 = .ok (.iload 4, 2) := by decide +kernel
theorem dX5_laysChanges_120 : decode cX5_laysChanges 120 = .ok (.ishl, 1) := by decide +kernel
theorem dX5_laysChanges_121 : decode cX5_laysChanges 121 = .ok (.ior, 1) := by decide +kernel
theorem dX5_laysChanges_122 : decode cX5_laysChanges 122 = .ok (.imul, 1) := by decide +kernel
theorem dX5_laysChanges_123 : decode cX5_laysChanges 123 = .ok (.iload 4, 2) := by decide +kernel
theorem dX5_laysChanges_125 : decode cX5_laysChanges 125 = .ok (.iadd, 1) := by decide +kernel
theorem dX5_laysChanges_126 : decode cX5_laysChanges 126 = .ok (.iaload, 1) := by decide +kernel
theorem dX5_laysChanges_127 : decode cX5_laysChanges 127 = .ok (.aload_n 0, 1) := by decide +kernel
theorem dX5_laysChanges_128 : decode cX5_laysChanges 128 = .ok (.getfield 7, 3) := by decide +kernel
theorem dX5_laysChanges_131 : decode cX5_laysChanges 131 = .ok (.iload 4, 2) := by decide +kernel
theorem dX5_laysChanges_133 : decode cX5_laysChanges 133 = .ok (.iaload, 1) := by decide +kernel
theorem dX5_laysChanges_134 : decode cX5_laysChanges 134 = .ok (.aload_n 0, 1) := by decide +kernel
theorem dX5_laysChanges_135 : decode cX5_laysChanges 135 = .ok (.getfield 7, 3) := by decide +kernel
theorem dX5_laysChanges_138 : decode cX5_laysChanges 138 = .ok (.iload_n 2, 1) := by decide +kernel
theorem dX5_laysChanges_139 : decode cX5_laysChanges 139 = .ok (.iaload, 1) := by decide +kernel
theorem dX5_laysChanges_140 : decode cX5_laysChanges 140 = .ok (.if_icmp .ne 7, 3) := by decide +kernel
theorem dX5_laysChanges_143 : decode cX5_laysChanges 143 = .ok (.iconst 0, 1) := by decide +kernel
theorem dX5_laysChanges_144 : decode cX5_laysChanges 144 = .ok (.goto 4, 3) := by decide +kernel
theorem dX5_laysChanges_147 : decode cX5_laysChanges 147 = .ok (.iconst 1, 1) := by decide +kernel
theorem dX5_laysChanges_148 : decode cX5_laysChanges 148 = .ok (.iadd, 1) := by decide +kernel
theorem dX5_laysChanges_149 : decode cX5_laysChanges 149 = .ok (.istore 5, 2) := by decide +kernel
theorem dX5_laysChanges_151 : decode cX5_laysChanges 151 = .ok (.aload_n 0, 1) := by decide +kernel
theorem dX5_laysChanges_152 : decode cX5_laysChanges 152 = .ok (.getfield 34, 3) := by decide +kernel
theorem dX5_laysChanges_155 : decode cX5_laysChanges 155 = .ok (.bipush 8, 2) := by decide +kernel
theorem dX5_laysChanges_157 : decode cX5_laysChanges 157 = .ok (.iload_n 1, 1) := by decide +kernel
theorem dX5_laysChanges_158 : decode cX5_laysChanges 158 = .ok (.imul, 1) := by decide +kernel
theorem dX5_laysChanges_159 : decode cX5_laysChanges 159 = .ok (.iload_n 2, 1) := by decide +kernel
theorem dX5_laysChanges_160 : decode cX5_laysChanges 160 = .ok (.iadd, 1) := by decide +kernel
theorem dX5_laysChanges_161 : decode cX5_laysChanges 161 = .ok (.iload 5, 2) := by decide +kernel
theorem dX5_laysChanges_163 : decode cX5_laysChanges 163 = .ok (.aload_n 0, 1) := by decide +kernel
theorem dX5_laysChanges_164 : decode cX5_laysChanges 164 = .ok (.getfield 34, 3) := by decide +kernel
theorem dX5_laysChanges_167 : decode cX5_laysChanges 167 = .ok (.bipush 8, 2) := by decide +kernel
theorem dX5_laysChanges_169 : decode cX5_laysChanges 169 = .ok (.iload_n 1, 1) := by decide +kernel
theorem dX5_laysChanges_170 : decode cX5_laysChanges 170 = .ok (.imul, 1) := by decide +kernel
theorem dX5_laysChanges_171 : decode cX5_laysChanges 171 = .ok (.iload_n 2, 1) := by decide +kernel
theorem dX5_laysChanges_172 : decode cX5_laysChanges 172 = .ok (.iadd, 1) := by decide +kernel
theorem dX5_laysChanges_173 : decode cX5_laysChanges 173 = .ok (.iaload, 1) := by decide +kernel
theorem dX5_laysChanges_174 : decode cX5_laysChanges 174 = .ok (.if_icmp .ge 8, 3) := by decide +kernel
theorem dX5_laysChanges_177 : decode cX5_laysChanges 177 = .ok (.iload 5, 2) := by decide +kernel
theorem dX5_laysChanges_179 : decode cX5_laysChanges 179 = .ok (.goto 14, 3) := by decide +kernel
theorem dX5_laysChanges_182 : decode cX5_laysChanges 182 = .ok (.aload_n 0, 1) := by decide +kernel
theorem dX5_laysChanges_183 : decode cX5_laysChanges 183 = .ok (.getfield 34, 3) := by decide +kernel
theorem dX5_laysChanges_186 : decode cX5_laysChanges 186 = .ok (.bipush 8, 2) := by decide +kernel
theorem dX5_laysChanges_188 : decode cX5_laysChanges 188 = .ok (.iload_n 1, 1) := by decide +kernel
theorem dX5_laysChanges_189 : decode cX5_laysChanges 189 = .ok (.imul, 1) := by decide +kernel
theorem dX5_laysChanges_190 : decode cX5_laysChanges 190 = .ok (.iload_n 2, 1) := by decide +kernel
theorem dX5_laysChanges_191 : decode cX5_laysChanges 191 = .ok (.iadd, 1) := by decide +kernel
theorem dX5_laysChanges_192 : decode cX5_laysChanges 192 = .ok (.iaload, 1) := by decide +kernel
theorem dX5_laysChanges_193 : decode cX5_laysChanges 193 = .ok (.iastore, 1) := by decide +kernel
theorem dX5_laysChanges_194 : decode cX5_laysChanges 194 = .ok (.iinc 4 1, 3) := by decide +kernel
theorem dX5_laysChanges_197 : decode cX5_laysChanges 197 = .ok (.goto (-109), 3) := by decide +kernel
theorem dX5_laysChanges_200 : decode cX5_laysChanges 200 = .ok (.iinc 2 1, 3) := by decide +kernel
theorem dX5_laysChanges_203 : decode cX5_laysChanges 203 = .ok (.goto (-192), 3) := by decide +kernel
theorem dX5_laysChanges_206 : decode cX5_laysChanges 206 = .ok (.iinc 1 (-1), 3) := by decide +kernel
theorem dX5_laysChanges_209 : decode cX5_laysChanges 209 = .ok (.goto (-204), 3) := by decide +kernel
theorem dX5_laysChanges_212 : decode cX5_laysChanges 212 = .ok (.return_, 1) := by decide +kernel
set_option maxRecDepth 20000 in
theorem ggX5_best_X5_laysChanges : GoodIn wsX5_best wsX5_laysChanges := goodIn_r _ [9, 1, 2, 3, 10, 11, 12, 8, 13, 14, 15, 16, 17, 18, 19, 20, 21, 22, 23, 24, 25, 26, 27, 28, 29, 30, 31, 32, 33, 34, 35, 36, 37, 38, 39, 40, 41, 42, 43, 44, 45, 46, 47, 48, 49, 50, 51, 52, 53, 54, 55, 56, 57, 58, 59, 60] (by decide +kernel) (by decide +kernel)
set_option maxRecDepth 20000 in
theorem gX5_best_X5_laysChanges : GoodIn wsX5_best (wsV RX5 119 RX5 yX5_laysChanges wsX5_laysChanges) := goodIn_app (goodIn_of _ (by decide +kernel)) ggX5_best_X5_laysChanges
theorem dX5_best_0 : decode cX5_best 0 = .ok (.aload_n 0, 1) := by decide +kernel
theorem dX5_best_1 : decode cX5_best 1 = .ok (.invokevirtual 119, 3) := by decide +kernel
theorem dX5_best_4 : decode cX5_best 4 = .ok (.sipush 1000, 3) := by decide +kernel
theorem dX5_best_7 : decode cX5_best 7 = .ok (.istore_n 1, 1) := by decide +kernel
theorem dX5_best_8 : decode cX5_best 8 = .ok (.iconst 0, 1) := by decide +kernel
theorem dX5_best_9 : decode cX5_best 9 = .ok (.istore_n 2, 1) := by decide +kernel
theorem dX5_best_10 : decode cX5_best 10 = .ok (.iload_n 2, 1) := by decide +kernel
theorem dX5_best_11 : decode cX5_best 11 = .ok (.aload_n 0, 1) := by decide +kernel
theorem dX5_best_12 : decode cX5_best 12 = .ok (.getfield 44, 3) := by decide +kernel
theorem dX5_best_15 : decode cX5_best 15 = .ok (.if_icmp .ge 40, 3) := by decide +kernel
theorem dX5_best_18 : decode cX5_best 18 = .ok (.aload_n 0, 1) := by decide +kernel
theorem dX5_best_19 : decode cX5_best 19 = .ok (.getfield 34, 3) := by decide +kernel
theorem dX5_best_22 : decode cX5_best 22 = .ok (.bipush 8, 2) := by decide +kernel
theorem dX5_best_24 : decode cX5_best 24 = .ok (.iload_n 2, 1) := by decide +kernel
theorem dX5_best_25 : decode cX5_best 25 = .ok (.ishl, 1) := by decide +kernel
theorem dX5_best_26 : decode cX5_best 26 = .ok (.iload_n 2, 1) := by decide +kernel
theorem dX5_best_27 : decode cX5_best 27 = .ok (.ior, 1) := by decide +kernel
theorem dX5_best_28 : decode cX5_best 28 = .ok (.iaload, 1) := by decide +kernel
theorem dX5_best_29 : decode cX5_best 29 = .ok (.iload_n 1, 1) := by decide +kernel
theorem dX5_best_30 : decode cX5_best 30 = .ok (.if_icmp .ge 17, 3) := by decide +kernel
theorem dX5_best_33 : decode cX5_best 33 = .ok (.aload_n 0, 1) := by decide +kernel
theorem dX5_best_34 : decode cX5_best 34 = .ok (.getfield 34, 3) := by decide +kernel
theorem dX5_best_37 : decode cX5_best 37 = .ok (.bipush 8, 2) := by decide +kernel
theorem dX5_best_39 : decode cX5_best 39 = .ok (.iload_n 2, 1) := by decide +kernel
theorem dX5_best_40 : decode cX5_best 40 = .ok (.ishl, 1) := by decide +kernel
theorem dX5_best_41 : decode cX5_best 41 = .ok (.iload_n 2, 1) := by decide +kernel
theorem dX5_best_42 : decode cX5_best 42 = .ok (.ior, 1) := by decide +kernel
theorem dX5_best_43 : decode cX5_best 43 = .ok (.iaload, 1) := by decide +kernel
theorem dX5_best_44 : decode cX5_best 44 = .ok (.goto 4, 3) := by decide +kernel
theorem dX5_best_47 : decode cX5_best 47 = .ok (.iload_n 1, 1) := by decide +kernel
theorem dX5_best_48 : decode cX5_best 48 = .ok (.istore_n 1, 1) := by decide +kernel
theorem dX5_best_49 : decode cX5_best 49 = .ok (.iinc 2 1, 3) := by decide +kernel
theorem dX5_best_52 : decode cX5_best 52 = .ok (.goto (-42), 3) := by decide +kernel
theorem dX5_best_55 : decode cX5_best 55 = .ok (.iload_n 1, 1) := by decide +kernel
theorem dX5_best_56 : decode cX5_best 56 = .ok (.sipush 1000, 3) := by decide +kernel
theorem dX5_best_59 : decode cX5_best 59 = .ok (.if_icmp .lt 5, 3) := by decide +kernel
theorem dX5_best_62 : decode cX5_best 62 = .ok (.iconst (-1), 1) := by decide +kernel
theorem dX5_best_63 : decode cX5_best 63 = .ok (.ireturn, 1) := by decide +kernel
theorem dX5_best_64 : decode cX5_best 64 = .ok (.iconst 0, 1) := by decide +kernel
theorem dX5_best_65 : decode cX5_best 65 = .ok (.istore_n 2, 1) := by decide +kernel
theorem dX5_best_66 : decode cX5_best 66 = .ok (.iload_n 1, 1) := by decide +kernel
theorem dX5_best_67 : decode cX5_best 67 = .ok (.istore_n 3, 1) := by decide +kernel
theorem dX5_best_68 : decode cX5_best 68 = .ok (.iconst 0, 1) := by decide +kernel
theorem dX5_best_69 : decode cX5_best 69 = .ok (.istore 4, 2) := by decide +kernel
theorem dX5_best_71 : decode cX5_best 71 = .ok (.iload 4, 2) := by decide +kernel
theorem dX5_best_73 : decode cX5_best 73 = .ok (.aload_n 0, 1) := by decide +kernel
theorem dX5_best_74 : decode cX5_best 74 = .ok (.getfield 44, 3) := by decide +kernel
theorem dX5_best_77 : decode cX5_best 77 = .ok (.if_icmp .ge 155, 3) := by decide +kernel
theorem dX5_best_80 : decode cX5_best 80 = .ok (.iconst (-1), 1) := by decide +kernel
theorem dX5_best_81 : decode cX5_best 81 = .ok (.istore 5, 2) := by decide +kernel
theorem dX5_best_83 : decode cX5_best 83 = .ok (.aload_n 0, 1) := by decide +kernel
theorem dX5_best_84 : decode cX5_best 84 = .ok (.getfield 44, 3) := by decide +kernel
theorem dX5_best_87 : decode cX5_best 87 = .ok (.iconst 1, 1) := by decide +kernel
theorem dX5_best_88 : decode cX5_best 88 = .ok (.isub, 1) := by decide +kernel
theorem dX5_best_89 : decode cX5_best 89 = .ok (.istore 6, 2) := by decide +kernel
theorem dX5_best_91 : decode cX5_best 91 = .ok (.iload 6, 2) := by decide +kernel
theorem dX5_best_93 : decode cX5_best 93 = .ok (.ifCond .lt 99, 3) := by decide +kernel
theorem dX5_best_96 : decode cX5_best 96 = .ok (.iload 4, 2) := by decide +kernel
theorem dX5_best_98 : decode cX5_best 98 = .ok (.ifCond .le 31, 3) := by decide +kernel
theorem dX5_best_101 : decode cX5_best 101 = .ok (.aload_n 0, 1) := by decide +kernel
theorem dX5_best_102 : decode cX5_best 102 = .ok (.getfield 7, 3) := by decide +kernel
theorem dX5_best_105 : decode cX5_best 105 = .ok (.aload_n 0, 1) := by decide +kernel
theorem dX5_best_106 : decode cX5_best 106 = .ok (.getfield 37, 3) := by decide +kernel
theorem dX5_best_109 : decode cX5_best 109 = .ok (.iload 4, 2) := by decide +kernel
theorem dX5_best_111 : decode cX5_best 111 = .ok (.iconst 1, 1) := by decide +kernel
theorem dX5_best_112 : decode cX5_best 112 = .ok (.isub, 1) := by decide +kernel
theorem dX5_best_113 : decode cX5_best 113 = .ok (.iaload, 1) := by decide +kernel
theorem dX5_best_114 : decode cX5_best 114 = .ok (.iaload, 1) := by decide +kernel
theorem dX5_best_115 : decode cX5_best 115 = .ok (.aload_n 0, 1) := by decide +kernel
theorem dX5_best_116 : decode cX5_best 116 = .ok (.getfield 7, 3) := by decide +kernel
theorem dX5_best_119 : decode cX5_best 119 = .ok (.iload 6, 2) := by decide +kernel
theorem dX5_best_121 : decode cX5_best 121 = .ok (.iaload, 1) := by decide +kernel
theorem dX5_best_122 : decode cX5_best 122 = .ok (.if_icmp .eq 7, 3) := by decide +kernel
theorem dX5_best_125 : decode cX5_best 125 = .ok (.iconst 1, 1) := by decide +kernel
theorem dX5_best_126 : decode cX5_best 126 = .ok (.goto 4, 3) := by decide +kernel
theorem dX5_best_129 : decode cX5_best 129 = .ok (.iconst 0, 1) := by decide +kernel
theorem dX5_best_130 : decode cX5_best 130 = .ok (.istore 7, 2) := by decide +kernel
theorem dX5_best_132 : decode cX5_best 132 = .ok (.iload_n 2, 1) := by decide +kernel
theorem dX5_best_133 : decode cX5_best 133 = .ok (.iload 6, 2) := by decide +kernel
theorem dX5_best_135 : decode cX5_best 135 = .ok (.ishr, 1) := by decide +kernel
theorem dX5_best_136 : decode cX5_best 136 = .ok (.iconst 1, 1) := by decide +kernel
theorem dX5_best_137 : decode cX5_best 137 = .ok (.iand, 1) := by decide +kernel
theorem dX5_best_138 : decode cX5_best 138 = .ok (.ifCond .ne 31, 3) := by decide +kernel
theorem dX5_best_141 : decode cX5_best 141 = .ok (.aload_n 0, 1) := by decide +kernel
theorem dX5_best_142 : decode cX5_best 142 = .ok (.getfield 34, 3) := by decide +kernel
theorem dX5_best_145 : decode cX5_best 145 = .ok (.bipush 8, 2) := by decide +kernel
theorem dX5_best_147 : decode cX5_best 147 = .ok (.iload_n 2, 1) := by decide +kernel
theorem dX5_best_148 : decode cX5_best 148 = .ok (.iconst 1, 1) := by decide +kernel
theorem dX5_best_149 : decode cX5_best 149 = .ok (.iload 6, 2) := by decide +kernel
theorem dX5_best_151 : decode cX5_best 151 = .ok (.ishl, 1) := by decide +kernel
theorem dX5_best_152 : decode cX5_best 152 = .ok (.ior, 1) := by decide +kernel
theorem dX5_best_153 : decode cX5_best 153 = .ok (.imul, 1) := by decide +kernel
theorem dX5_best_154 : decode cX5_best 154 = .ok (.iload 6, 2) := by decide +kernel
theorem dX5_best_156 : decode cX5_best 156 = .ok (.iadd, 1) := by decide +kernel
theorem dX5_best_157 : decode cX5_best 157 = .ok (.iaload, 1) := by decide +kernel
theorem dX5_best_158 : decode cX5_best 158 = .ok (.iload 7, 2) := by decide +kernel
theorem dX5_best_160 : decode cX5_best 160 = .ok (.iadd, 1) := by decide +kernel
theorem dX5_best_161 : decode cX5_best 161 = .ok (.iload_n 3, 1) := by decide +kernel
theorem dX5_best_162 : decode cX5_best 162 = .ok (.if_icmp .ne 7, 3) := by decide +kernel
theorem dX5_best_165 : decode cX5_best 165 = .ok (.iconst 1, 1) := by decide +kernel
theorem dX5_best_166 : decode cX5_best 166 = .ok (.goto 4, 3) := by decide +kernel
theorem dX5_best_169 : decode cX5_best 169 = .ok (.iconst 0, 1) := by decide +kernel
theorem dX5_best_170 : decode cX5_best 170 = .ok (.istore 8, 2) := by decide +kernel
theorem dX5_best_172 : decode cX5_best 172 = .ok (.iload 8, 2) := by decide +kernel
theorem dX5_best_174 : decode cX5_best 174 = .ok (.ifCond .eq 8, 3) := by decide +kernel
theorem dX5_best_177 : decode cX5_best 177 = .ok (.iload 6, 2) := by decide +kernel
theorem dX5_best_179 : decode cX5_best 179 = .ok (.goto 5, 3) := by decide +kernel
theorem dX5_best_182 : decode cX5_best 182 = .ok (.iload 5, 2) := by decide +kernel
theorem dX5_best_184 : decode cX5_best 184 = .ok (.istore 5, 2) := by decide +kernel
theorem dX5_best_186 : decode cX5_best 186 = .ok (.iinc 6 (-1), 3) := by decide +kernel
theorem dX5_best_189 : decode cX5_best 189 = .ok (.goto (-98), 3) := by decide +kernel
theorem dX5_best_192 : decode cX5_best 192 = .ok (.aload_n 0, 1) := by decide +kernel
theorem dX5_best_193 : decode cX5_best 193 = .ok (.getfield 34, 3) := by decide +kernel
theorem dX5_best_196 : decode cX5_best 196 = .ok (.bipush 8, 2) := by decide +kernel
theorem dX5_best_198 : decode cX5_best 198 = .ok (.iload_n 2, 1) := by decide +kernel
theorem dX5_best_199 : decode cX5_best 199 = .ok (.iconst 1, 1) := by decide +kernel
theorem dX5_best_200 : decode cX5_best 200 = .ok (.iload 5, 2) := by decide +kernel
theorem dX5_best_202 : decode cX5_best 202 = .ok (.ishl, 1) := by decide +kernel
theorem dX5_best_203 : decode cX5_best 203 = .ok (.ior, 1) := by decide +kernel
theorem dX5_best_204 : decode cX5_best 204 = .ok (.imul, 1) := by decide +kernel
theorem dX5_best_205 : decode cX5_best 205 = .ok (.iload 5, 2) := by decide +kernel
theorem dX5_best_207 : decode cX5_best 207 = .ok (.iadd, 1) := by decide +kernel
theorem dX5_best_208 : decode cX5_best 208 = .ok (.iaload, 1) := by decide +kernel
theorem dX5_best_209 : decode cX5_best 209 = .ok (.istore_n 3, 1) := by decide +kernel
theorem dX5_best_210 : decode cX5_best 210 = .ok (.iload_n 2, 1) := by decide +kernel
theorem dX5_best_211 : decode cX5_best 211 = .ok (.iconst 1, 1) := by decide +kernel
theorem dX5_best_212 : decode cX5_best 212 = .ok (.iload 5, 2) := by decide +kernel
theorem dX5_best_214 : decode cX5_best 214 = .ok (.ishl, 1) := by decide +kernel
theorem dX5_best_215 : decode cX5_best 215 = .ok (.ior, 1) := by decide +kernel
theorem dX5_best_216 : decode cX5_best 216 = .ok (.istore_n 2, 1) := by decide +kernel
theorem dX5_best_217 : decode cX5_best 217 = .ok (.aload_n 0, 1) := by decide +kernel
theorem dX5_best_218 : decode cX5_best 218 = .ok (.getfield 37, 3) := by decide +kernel
theorem dX5_best_221 : decode cX5_best 221 = .ok (.iload 4, 2) := by decide +kernel
theorem dX5_best_223 : decode cX5_best 223 = .ok (.iload 5, 2) := by decide +kernel
theorem dX5_best_225 : decode cX5_best 225 = .ok (.iastore, 1) := by decide +kernel
theorem dX5_best_226 : decode cX5_best 226 = .ok (.iinc 4 1, 3) := by decide +kernel
theorem dX5_best_229 : decode cX5_best 229 = .ok (.goto (-158), 3) := by decide +kernel
theorem dX5_best_232 : decode cX5_best 232 = .ok (.iload_n 1, 1) := by decide +kernel
theorem dX5_best_233 : decode cX5_best 233 = .ok (.ireturn, 1) := by decide +kernel
set_option maxRecDepth 20000 in
theorem ggX5_fewestChanges_X5_holds : GoodIn wsX5_fewestChanges wsX5_holds := goodIn_r _ [6, 7, 51, 52, 53, 54, 55, 56, 57, 58, 59, 60, 61, 62, 63, 64, 65, 66, 67, 68, 69] (by decide +kernel) (by decide +kernel)
set_option maxRecDepth 20000 in
theorem gX5_fewestChanges_X5_holds : GoodIn wsX5_fewestChanges (wsV RX5 51 RX5 yX5_holds wsX5_holds) := goodIn_app (goodIn_of _ (by decide +kernel)) ggX5_fewestChanges_X5_holds
set_option maxRecDepth 20000 in
theorem ggX5_fewestChanges_X5_best : GoodIn wsX5_fewestChanges wsX5_best := goodIn_r _ [11, 1, 12, 13, 14, 15, 16, 17, 5, 18, 19, 20, 21, 22, 23, 24, 25, 26, 27, 28, 29, 30, 31, 32, 33, 34, 35, 36, 37, 38, 39, 40, 41, 42, 43, 44, 45, 46, 47, 48, 49, 50, 51, 52, 53, 54, 55, 56, 57, 58, 59, 60, 61, 62, 63, 64, 65, 66, 67, 68, 69] (by decide +kernel) (by decide +kernel)
set_option maxRecDepth 20000 in
theorem gX5_fewestChanges_X5_best : GoodIn wsX5_fewestChanges (wsV RX5 122 RX5 yX5_best wsX5_best) := goodIn_app (goodIn_of _ (by decide +kernel)) ggX5_fewestChanges_X5_best
theorem dX5_fewestChanges_0 : decode cX5_fewestChanges 0 = .ok (.aload_n 0, 1) := by decide +kernel
theorem dX5_fewestChanges_1 : decode cX5_fewestChanges 1 = .ok (.aload_n 0, 1) := by decide +kernel
theorem dX5_fewestChanges_2 : decode cX5_fewestChanges 2 = .ok (.getfield 44, 3) := by decide +kernel
theorem dX5_fewestChanges_5 : decode cX5_fewestChanges 5 = .ok (.ifCond .ne 7, 3) := by decide +kernel
theorem dX5_fewestChanges_8 : decode cX5_fewestChanges 8 = .ok (.iconst 1, 1) := by decide +kernel
theorem dX5_fewestChanges_9 : decode cX5_fewestChanges 9 = .ok (.goto 4, 3) := by decide +kernel
theorem dX5_fewestChanges_12 : decode cX5_fewestChanges 12 = .ok (.iconst 0, 1) := by decide +kernel
theorem dX5_fewestChanges_13 : decode cX5_fewestChanges 13 = .ok (.invokevirtual 51, 3) := by decide +kernel
theorem dX5_fewestChanges_16 : decode cX5_fewestChanges 16 = .ok (.ifCond .eq 10, 3) := by decide +kernel
theorem dX5_fewestChanges_19 : decode cX5_fewestChanges 19 = .ok (.aload_n 0, 1) := by decide +kernel
theorem dX5_fewestChanges_20 : decode cX5_fewestChanges 20 = .ok (.invokevirtual 122, 3) := by decide +kernel
theorem dX5_fewestChanges_23 : decode cX5_fewestChanges 23 = .ok (.goto 4, 3) := by decide +kernel
theorem dX5_fewestChanges_26 : decode cX5_fewestChanges 26 = .ok (.iconst 0, 1) := by decide +kernel
theorem dX5_fewestChanges_27 : decode cX5_fewestChanges 27 = .ok (.ireturn, 1) := by decide +kernel
set_option maxRecDepth 20000 in
theorem ggX5_fewestByListing_X5_holds : GoodIn wsX5_fewestByListing wsX5_holds := goodIn_r _ [6, 7, 51, 52, 53, 54, 55, 56, 57, 58, 59, 60, 61, 62, 63, 64, 65, 66, 67, 68, 69] (by decide +kernel) (by decide +kernel)
set_option maxRecDepth 20000 in
theorem gX5_fewestByListing_X5_holds : GoodIn wsX5_fewestByListing (wsV RX5 51 RX5 yX5_holds wsX5_holds) := goodIn_app (goodIn_of _ (by decide +kernel)) ggX5_fewestByListing_X5_holds
set_option maxRecDepth 20000 in
theorem ggX5_fewestByListing_X5_best : GoodIn wsX5_fewestByListing wsX5_best := goodIn_r _ [11, 1, 12, 13, 14, 15, 16, 17, 5, 18, 19, 20, 21, 22, 23, 24, 25, 26, 27, 28, 29, 30, 31, 32, 33, 34, 35, 36, 37, 38, 39, 40, 41, 42, 43, 44, 45, 46, 47, 48, 49, 50, 51, 52, 53, 54, 55, 56, 57, 58, 59, 60, 61, 62, 63, 64, 65, 66, 67, 68, 69] (by decide +kernel) (by decide +kernel)
set_option maxRecDepth 20000 in
theorem gX5_fewestByListing_X5_best : GoodIn wsX5_fewestByListing (wsV RX5 122 RX5 yX5_best wsX5_best) := goodIn_app (goodIn_of _ (by decide +kernel)) ggX5_fewestByListing_X5_best
theorem dX5_fewestByListing_0 : decode cX5_fewestByListing 0 = .ok (.aload_n 0, 1) := by decide +kernel
theorem dX5_fewestByListing_1 : decode cX5_fewestByListing 1 = .ok (.aload_n 0, 1) := by decide +kernel
theorem dX5_fewestByListing_2 : decode cX5_fewestByListing 2 = .ok (.getfield 44, 3) := by decide +kernel
theorem dX5_fewestByListing_5 : decode cX5_fewestByListing 5 = .ok (.ifCond .eq 12, 3) := by decide +kernel
theorem dX5_fewestByListing_8 : decode cX5_fewestByListing 8 = .ok (.aload_n 0, 1) := by decide +kernel
theorem dX5_fewestByListing_9 : decode cX5_fewestByListing 9 = .ok (.getfield 44, 3) := by decide +kernel
theorem dX5_fewestByListing_12 : decode cX5_fewestByListing 12 = .ok (.bipush 7, 2) := by decide +kernel
theorem dX5_fewestByListing_14 : decode cX5_fewestByListing 14 = .ok (.if_icmp .le 7, 3) := by decide +kernel
theorem dX5_fewestByListing_17 : decode cX5_fewestByListing 17 = .ok (.iconst 1, 1) := by decide +kernel
theorem dX5_fewestByListing_18 : decode cX5_fewestByListing 18 = .ok (.goto 4, 3) := by decide +kernel
theorem dX5_fewestByListing_21 : decode cX5_fewestByListing 21 = .ok (.iconst 0, 1) := by decide +kernel
theorem dX5_fewestByListing_22 : decode cX5_fewestByListing 22 = .ok (.invokevirtual 51, 3) := by decide +kernel
theorem dX5_fewestByListing_25 : decode cX5_fewestByListing 25 = .ok (.ifCond .eq 10, 3) := by decide +kernel
theorem dX5_fewestByListing_28 : decode cX5_fewestByListing 28 = .ok (.aload_n 0, 1) := by decide +kernel
theorem dX5_fewestByListing_29 : decode cX5_fewestByListing 29 = .ok (.invokevirtual 122, 3) := by decide +kernel
theorem dX5_fewestByListing_32 : decode cX5_fewestByListing 32 = .ok (.goto 4, 3) := by decide +kernel
theorem dX5_fewestByListing_35 : decode cX5_fewestByListing 35 = .ok (.iconst 0, 1) := by decide +kernel
theorem dX5_fewestByListing_36 : decode cX5_fewestByListing 36 = .ok (.ireturn, 1) := by decide +kernel
set_option maxRecDepth 20000 in
theorem ggX5_orderAt_X5_best : GoodIn wsX5_orderAt wsX5_best := goodIn_r _ [7, 1, 8, 9, 2, 10, 11, 12, 6, 13, 14, 15, 16, 17, 18, 19, 20, 21, 22, 23, 24, 25, 26, 27, 28, 29, 30, 31, 32, 33, 34, 35, 36, 37, 38, 39, 40, 41, 42, 43, 44, 45, 51, 52, 53, 54, 55, 56, 57, 58, 59, 60, 61, 62, 63, 64, 65, 66, 67, 68, 69] (by decide +kernel) (by decide +kernel)
set_option maxRecDepth 20000 in
theorem gX5_orderAt_X5_best : GoodIn wsX5_orderAt (wsV RX5 122 RX5 yX5_best wsX5_best) := goodIn_app (goodIn_of _ (by decide +kernel)) ggX5_orderAt_X5_best
set_option maxRecDepth 20000 in
theorem ggX5_orderAt_X5_holds : GoodIn wsX5_orderAt wsX5_holds := goodIn_r _ [49, 50, 51, 52, 53, 54, 55, 56, 57, 58, 59, 60, 61, 62, 63, 64, 65, 66, 67, 68, 69] (by decide +kernel) (by decide +kernel)
set_option maxRecDepth 20000 in
theorem gX5_orderAt_X5_holds : GoodIn wsX5_orderAt (wsV RX5 51 RX5 yX5_holds wsX5_holds) := goodIn_app (goodIn_of _ (by decide +kernel)) ggX5_orderAt_X5_holds
theorem dX5_orderAt_0 : decode cX5_orderAt 0 = .ok (.iload_n 1, 1) := by decide +kernel
theorem dX5_orderAt_1 : decode cX5_orderAt 1 = .ok (.ifCond .lt 23, 3) := by decide +kernel
theorem dX5_orderAt_4 : decode cX5_orderAt 4 = .ok (.iload_n 1, 1) := by decide +kernel
theorem dX5_orderAt_5 : decode cX5_orderAt 5 = .ok (.aload_n 0, 1) := by decide +kernel
theorem dX5_orderAt_6 : decode cX5_orderAt 6 = .ok (.getfield 44, 3) := by decide +kernel
theorem dX5_orderAt_9 : decode cX5_orderAt 9 = .ok (.if_icmp .ge 15, 3) := by decide +kernel
theorem dX5_orderAt_12 : decode cX5_orderAt 12 = .ok (.aload_n 0, 1) := by decide +kernel
theorem dX5_orderAt_13 : decode cX5_orderAt 13 = .ok (.invokevirtual 122, 3) := by decide +kernel
theorem dX5_orderAt_16 : decode cX5_orderAt 16 = .ok (.iconst (-1), 1) := by decide +kernel
theorem dX5_orderAt_17 : decode cX5_orderAt 17 = .ok (.if_icmp .eq 7, 3) := by decide +kernel
theorem dX5_orderAt_20 : decode cX5_orderAt 20 = .ok (.iconst 1, 1) := by decide +kernel
theorem dX5_orderAt_21 : decode cX5_orderAt 21 = .ok (.goto 4, 3) := by decide +kernel
theorem dX5_orderAt_24 : decode cX5_orderAt 24 = .ok (.iconst 0, 1) := by decide +kernel
theorem dX5_orderAt_25 : decode cX5_orderAt 25 = .ok (.istore_n 2, 1) := by decide +kernel
theorem dX5_orderAt_26 : decode cX5_orderAt 26 = .ok (.aload_n 0, 1) := by decide +kernel
theorem dX5_orderAt_27 : decode cX5_orderAt 27 = .ok (.iload_n 2, 1) := by decide +kernel
theorem dX5_orderAt_28 : decode cX5_orderAt 28 = .ok (.ifCond .eq 7, 3) := by decide +kernel
theorem dX5_orderAt_31 : decode cX5_orderAt 31 = .ok (.iconst 0, 1) := by decide +kernel
theorem dX5_orderAt_32 : decode cX5_orderAt 32 = .ok (.goto 4, 3) := by decide +kernel
theorem dX5_orderAt_35 : decode cX5_orderAt 35 = .ok (.iconst 1, 1) := by decide +kernel
theorem dX5_orderAt_36 : decode cX5_orderAt 36 = .ok (.invokevirtual 51, 3) := by decide +kernel
theorem dX5_orderAt_39 : decode cX5_orderAt 39 = .ok (.ifCond .eq 12, 3) := by decide +kernel
theorem dX5_orderAt_42 : decode cX5_orderAt 42 = .ok (.aload_n 0, 1) := by decide +kernel
theorem dX5_orderAt_43 : decode cX5_orderAt 43 = .ok (.getfield 37, 3) := by decide +kernel
theorem dX5_orderAt_46 : decode cX5_orderAt 46 = .ok (.iload_n 1, 1) := by decide +kernel
theorem dX5_orderAt_47 : decode cX5_orderAt 47 = .ok (.iaload, 1) := by decide +kernel
theorem dX5_orderAt_48 : decode cX5_orderAt 48 = .ok (.goto 4, 3) := by decide +kernel
theorem dX5_orderAt_51 : decode cX5_orderAt 51 = .ok (.iconst 0, 1) := by decide +kernel
theorem dX5_orderAt_52 : decode cX5_orderAt 52 = .ok (.ireturn, 1) := by decide +kernel
set_option maxRecDepth 20000 in
theorem ggX5_setJams_X5_isPart : GoodIn wsX5_setJams wsX5_isPart := goodIn_r _ [6, 7, 13, 14, 15, 16, 17, 18, 19, 20, 21, 22, 23, 24, 25, 26, 27, 28, 29, 30, 31] (by decide +kernel) (by decide +kernel)
set_option maxRecDepth 20000 in
theorem gX5_setJams_X5_isPart : GoodIn wsX5_setJams (wsV RX5 58 RX5 yX5_isPart wsX5_isPart) := goodIn_app (goodIn_of _ (by decide +kernel)) ggX5_setJams_X5_isPart
set_option maxRecDepth 20000 in
theorem ggX5_setJams_X5_holds : GoodIn wsX5_setJams wsX5_holds := goodIn_r _ [11, 12, 13, 14, 15, 16, 17, 18, 19, 20, 21, 22, 23, 24, 25, 26, 27, 28, 29, 30, 31] (by decide +kernel) (by decide +kernel)
set_option maxRecDepth 20000 in
theorem gX5_setJams_X5_holds : GoodIn wsX5_setJams (wsV RX5 51 RX5 yX5_holds wsX5_holds) := goodIn_app (goodIn_of _ (by decide +kernel)) ggX5_setJams_X5_holds
theorem dX5_setJams_0 : decode cX5_setJams 0 = .ok (.aload_n 0, 1) := by decide +kernel
theorem dX5_setJams_1 : decode cX5_setJams 1 = .ok (.aload_n 0, 1) := by decide +kernel
theorem dX5_setJams_2 : decode cX5_setJams 2 = .ok (.iload_n 1, 1) := by decide +kernel
theorem dX5_setJams_3 : decode cX5_setJams 3 = .ok (.invokevirtual 58, 3) := by decide +kernel
theorem dX5_setJams_6 : decode cX5_setJams 6 = .ok (.ifCond .ne 7, 3) := by decide +kernel
theorem dX5_setJams_9 : decode cX5_setJams 9 = .ok (.iconst 1, 1) := by decide +kernel
theorem dX5_setJams_10 : decode cX5_setJams 10 = .ok (.goto 17, 3) := by decide +kernel
theorem dX5_setJams_13 : decode cX5_setJams 13 = .ok (.iload_n 2, 1) := by decide +kernel
theorem dX5_setJams_14 : decode cX5_setJams 14 = .ok (.ifCond .lt 8, 3) := by decide +kernel
theorem dX5_setJams_17 : decode cX5_setJams 17 = .ok (.iload_n 2, 1) := by decide +kernel
theorem dX5_setJams_18 : decode cX5_setJams 18 = .ok (.iconst 5, 1) := by decide +kernel
theorem dX5_setJams_19 : decode cX5_setJams 19 = .ok (.if_icmp .le 7, 3) := by decide +kernel
theorem dX5_setJams_22 : decode cX5_setJams 22 = .ok (.iconst 2, 1) := by decide +kernel
theorem dX5_setJams_23 : decode cX5_setJams 23 = .ok (.goto 4, 3) := by decide +kernel
theorem dX5_setJams_26 : decode cX5_setJams 26 = .ok (.iconst 0, 1) := by decide +kernel
theorem dX5_setJams_27 : decode cX5_setJams 27 = .ok (.invokevirtual 51, 3) := by decide +kernel
theorem dX5_setJams_30 : decode cX5_setJams 30 = .ok (.ifCond .ne 5, 3) := by decide +kernel
theorem dX5_setJams_33 : decode cX5_setJams 33 = .ok (.iconst 0, 1) := by decide +kernel
theorem dX5_setJams_34 : decode cX5_setJams 34 = .ok (.ireturn, 1) := by decide +kernel
theorem dX5_setJams_35 : decode cX5_setJams 35 = .ok (.aload_n 0, 1) := by decide +kernel
theorem dX5_setJams_36 : decode cX5_setJams 36 = .ok (.getfield 19, 3) := by decide +kernel
theorem dX5_setJams_39 : decode cX5_setJams 39 = .ok (.iload_n 1, 1) := by decide +kernel
theorem dX5_setJams_40 : decode cX5_setJams 40 = .ok (.iaload, 1) := by decide +kernel
theorem dX5_setJams_41 : decode cX5_setJams 41 = .ok (.istore_n 3, 1) := by decide +kernel
theorem dX5_setJams_42 : decode cX5_setJams 42 = .ok (.aload_n 0, 1) := by decide +kernel
theorem dX5_setJams_43 : decode cX5_setJams 43 = .ok (.getfield 19, 3) := by decide +kernel
theorem dX5_setJams_46 : decode cX5_setJams 46 = .ok (.iload_n 1, 1) := by decide +kernel
theorem dX5_setJams_47 : decode cX5_setJams 47 = .ok (.iload_n 2, 1) := by decide +kernel
theorem dX5_setJams_48 : decode cX5_setJams 48 = .ok (.iastore, 1) := by decide +kernel
theorem dX5_setJams_49 : decode cX5_setJams 49 = .ok (.iload_n 3, 1) := by decide +kernel
theorem dX5_setJams_50 : decode cX5_setJams 50 = .ok (.ireturn, 1) := by decide +kernel
set_option maxRecDepth 20000 in
theorem ggX5_begin_X5_best : GoodIn wsX5_begin wsX5_best := goodIn_r _ [12, 1, 13, 14, 15, 16, 17, 18, 11, 19, 20, 21, 22, 23, 24, 25, 26, 27, 28, 29, 30, 31, 32, 33, 34, 35, 36, 37, 38, 39, 40, 41, 42, 43, 44, 45, 46, 47, 48, 49, 50, 51, 57, 58, 59, 60, 61, 62, 63, 64, 65, 66, 67, 68, 69, 70, 71, 72, 73, 74, 75] (by decide +kernel) (by decide +kernel)
set_option maxRecDepth 20000 in
theorem gX5_begin_X5_best : GoodIn wsX5_begin (wsV RX5 122 RX5 yX5_best wsX5_best) := goodIn_app (goodIn_of _ (by decide +kernel)) ggX5_begin_X5_best
set_option maxRecDepth 20000 in
theorem ggX5_begin_X5_holds : GoodIn wsX5_begin wsX5_holds := goodIn_r _ [55, 56, 57, 58, 59, 60, 61, 62, 63, 64, 65, 66, 67, 68, 69, 70, 71, 72, 73, 74, 75] (by decide +kernel) (by decide +kernel)
set_option maxRecDepth 20000 in
theorem gX5_begin_X5_holds : GoodIn wsX5_begin (wsV RX5 51 RX5 yX5_holds wsX5_holds) := goodIn_app (goodIn_of _ (by decide +kernel)) ggX5_begin_X5_holds
theorem dX5_begin_0 : decode cX5_begin 0 = .ok (.aload_n 0, 1) := by decide +kernel
theorem dX5_begin_1 : decode cX5_begin 1 = .ok (.aload_n 0, 1) := by decide +kernel
theorem dX5_begin_2 : decode cX5_begin 2 = .ok (.getfield 44, 3) := by decide +kernel
theorem dX5_begin_5 : decode cX5_begin 5 = .ok (.ifCond .eq 11, 3) := by decide +kernel
theorem dX5_begin_8 : decode cX5_begin 8 = .ok (.aload_n 0, 1) := by decide +kernel
theorem dX5_begin_9 : decode cX5_begin 9 = .ok (.invokevirtual 122, 3) := by decide +kernel
theorem dX5_begin_12 : decode cX5_begin 12 = .ok (.iconst (-1), 1) := by decide +kernel
theorem dX5_begin_13 : decode cX5_begin 13 = .ok (.if_icmp .ne 7, 3) := by decide +kernel
theorem dX5_begin_16 : decode cX5_begin 16 = .ok (.iconst 1, 1) := by decide +kernel
theorem dX5_begin_17 : decode cX5_begin 17 = .ok (.goto 4, 3) := by decide +kernel
theorem dX5_begin_20 : decode cX5_begin 20 = .ok (.iconst 0, 1) := by decide +kernel
theorem dX5_begin_21 : decode cX5_begin 21 = .ok (.invokevirtual 51, 3) := by decide +kernel
theorem dX5_begin_24 : decode cX5_begin 24 = .ok (.ifCond .ne 5, 3) := by decide +kernel
theorem dX5_begin_27 : decode cX5_begin 27 = .ok (.iconst 0, 1) := by decide +kernel
theorem dX5_begin_28 : decode cX5_begin 28 = .ok (.ireturn, 1) := by decide +kernel
theorem dX5_begin_29 : decode cX5_begin 29 = .ok (.aload_n 0, 1) := by decide +kernel
theorem dX5_begin_30 : decode cX5_begin 30 = .ok (.iconst 1, 1) := by decide +kernel
theorem dX5_begin_31 : decode cX5_begin 31 = .ok (.putfield 54, 3) := by decide +kernel
theorem dX5_begin_34 : decode cX5_begin 34 = .ok (.aload_n 0, 1) := by decide +kernel
theorem dX5_begin_35 : decode cX5_begin 35 = .ok (.iconst 0, 1) := by decide +kernel
theorem dX5_begin_36 : decode cX5_begin 36 = .ok (.putfield 125, 3) := by decide +kernel
theorem dX5_begin_39 : decode cX5_begin 39 = .ok (.aload_n 0, 1) := by decide +kernel
theorem dX5_begin_40 : decode cX5_begin 40 = .ok (.iconst 0, 1) := by decide +kernel
theorem dX5_begin_41 : decode cX5_begin 41 = .ok (.putfield 128, 3) := by decide +kernel
theorem dX5_begin_44 : decode cX5_begin 44 = .ok (.aload_n 0, 1) := by decide +kernel
theorem dX5_begin_45 : decode cX5_begin 45 = .ok (.iconst 0, 1) := by decide +kernel
theorem dX5_begin_46 : decode cX5_begin 46 = .ok (.putfield 131, 3) := by decide +kernel
theorem dX5_begin_49 : decode cX5_begin 49 = .ok (.aload_n 0, 1) := by decide +kernel
theorem dX5_begin_50 : decode cX5_begin 50 = .ok (.iconst (-1), 1) := by decide +kernel
theorem dX5_begin_51 : decode cX5_begin 51 = .ok (.putfield 134, 3) := by decide +kernel
theorem dX5_begin_54 : decode cX5_begin 54 = .ok (.iconst 0, 1) := by decide +kernel
theorem dX5_begin_55 : decode cX5_begin 55 = .ok (.istore_n 1, 1) := by decide +kernel
theorem dX5_begin_56 : decode cX5_begin 56 = .ok (.iload_n 1, 1) := by decide +kernel
theorem dX5_begin_57 : decode cX5_begin 57 = .ok (.bipush 8, 2) := by decide +kernel
theorem dX5_begin_59 : decode cX5_begin 59 = .ok (.if_icmp .ge 16, 3) := by decide +kernel
theorem dX5_begin_62 : decode cX5_begin 62 = .ok (.aload_n 0, 1) := by decide +kernel
theorem dX5_begin_63 : decode cX5_begin 63 = .ok (.getfield 22, 3) := by decide +kernel
theorem dX5_begin_66 : decode cX5_begin 66 = .ok (.iload_n 1, 1) := by decide +kernel
theorem dX5_begin_67 : decode cX5_begin 67 = .ok (.iconst 0, 1) := by decide +kernel
theorem dX5_begin_68 : decode cX5_begin 68 = .ok (.iastore, 1) := by decide +kernel
theorem dX5_begin_69 : decode cX5_begin 69 = .ok (.iinc 1 1, 3) := by decide +kernel
theorem dX5_begin_72 : decode cX5_begin 72 = .ok (.goto (-16), 3) := by decide +kernel
theorem dX5_begin_75 : decode cX5_begin 75 = .ok (.aload_n 0, 1) := by decide +kernel
theorem dX5_begin_76 : decode cX5_begin 76 = .ok (.getfield 44, 3) := by decide +kernel
theorem dX5_begin_79 : decode cX5_begin 79 = .ok (.ireturn, 1) := by decide +kernel
theorem dX5_isPassed_0 : decode cX5_isPassed 0 = .ok (.aload_n 0, 1) := by decide +kernel
theorem dX5_isPassed_1 : decode cX5_isPassed 1 = .ok (.getfield 22, 3) := by decide +kernel
theorem dX5_isPassed_4 : decode cX5_isPassed 4 = .ok (.iload_n 1, 1) := by decide +kernel
theorem dX5_isPassed_5 : decode cX5_isPassed 5 = .ok (.iaload, 1) := by decide +kernel
theorem dX5_isPassed_6 : decode cX5_isPassed 6 = .ok (.iconst 2, 1) := by decide +kernel
theorem dX5_isPassed_7 : decode cX5_isPassed 7 = .ok (.if_icmp .lt 7, 3) := by decide +kernel
theorem dX5_isPassed_10 : decode cX5_isPassed 10 = .ok (.iconst 1, 1) := by decide +kernel
theorem dX5_isPassed_11 : decode cX5_isPassed 11 = .ok (.goto 4, 3) := by decide +kernel
theorem dX5_isPassed_14 : decode cX5_isPassed 14 = .ok (.iconst 0, 1) := by decide +kernel
theorem dX5_isPassed_15 : decode cX5_isPassed 15 = .ok (.ireturn, 1) := by decide +kernel
set_option maxRecDepth 20000 in
theorem ggX5_step_X5_holds : GoodIn wsX5_step wsX5_holds := goodIn_r _ [16, 17, 62, 63, 64, 65, 66, 67, 68, 69, 70, 71, 72, 73, 74, 75, 76, 77, 78, 79, 80] (by decide +kernel) (by decide +kernel)
set_option maxRecDepth 20000 in
theorem gX5_step_X5_holds : GoodIn wsX5_step (wsV RX5 51 RX5 yX5_holds wsX5_holds) := goodIn_app (goodIn_of _ (by decide +kernel)) ggX5_step_X5_holds
set_option maxRecDepth 20000 in
theorem ggX5_step_X5_best : GoodIn wsX5_step wsX5_best := goodIn_r _ [21, 3, 22, 6, 4, 23, 24, 25, 15, 26, 27, 28, 29, 30, 31, 32, 33, 34, 35, 36, 37, 38, 39, 40, 41, 42, 43, 44, 45, 46, 47, 48, 49, 50, 51, 52, 53, 11, 54, 55, 56, 57, 62, 63, 64, 65, 66, 67, 68, 69, 70, 71, 72, 73, 74, 75, 76, 77, 78, 79, 80] (by decide +kernel) (by decide +kernel)
set_option maxRecDepth 20000 in
theorem gX5_step_X5_best : GoodIn wsX5_step (wsV RX5 122 RX5 yX5_best wsX5_best) := goodIn_app (goodIn_of _ (by decide +kernel)) ggX5_step_X5_best
set_option maxRecDepth 20000 in
theorem ggX5_step_X5_isPassed : GoodIn wsX5_step wsX5_isPassed := goodIn_r _ [61, 9, 62, 63, 64, 65, 66, 67, 68, 69, 70, 71, 72, 73, 74, 75, 76, 77, 78, 79, 80] (by decide +kernel) (by decide +kernel)
set_option maxRecDepth 20000 in
theorem gX5_step_X5_isPassed : GoodIn wsX5_step (wsV RX5 137 RX5 yX5_isPassed wsX5_isPassed) := goodIn_app (goodIn_of _ (by decide +kernel)) ggX5_step_X5_isPassed
theorem dX5_step_0 : decode cX5_step 0 = .ok (.aload_n 0, 1) := by decide +kernel
theorem dX5_step_1 : decode cX5_step 1 = .ok (.aload_n 0, 1) := by decide +kernel
theorem dX5_step_2 : decode cX5_step 2 = .ok (.getfield 54, 3) := by decide +kernel
theorem dX5_step_5 : decode cX5_step 5 = .ok (.ifCond .eq 14, 3) := by decide +kernel
theorem dX5_step_8 : decode cX5_step 8 = .ok (.aload_n 0, 1) := by decide +kernel
theorem dX5_step_9 : decode cX5_step 9 = .ok (.getfield 125, 3) := by decide +kernel
theorem dX5_step_12 : decode cX5_step 12 = .ok (.aload_n 0, 1) := by decide +kernel
theorem dX5_step_13 : decode cX5_step 13 = .ok (.getfield 44, 3) := by decide +kernel
theorem dX5_step_16 : decode cX5_step 16 = .ok (.if_icmp .ne 7, 3) := by decide +kernel
theorem dX5_step_19 : decode cX5_step 19 = .ok (.iconst 1, 1) := by decide +kernel
theorem dX5_step_20 : decode cX5_step 20 = .ok (.goto 4, 3) := by decide +kernel
theorem dX5_step_23 : decode cX5_step 23 = .ok (.iconst 0, 1) := by decide +kernel
theorem dX5_step_24 : decode cX5_step 24 = .ok (.invokevirtual 51, 3) := by decide +kernel
theorem dX5_step_27 : decode cX5_step 27 = .ok (.ifCond .ne 5, 3) := by decide +kernel
theorem dX5_step_30 : decode cX5_step 30 = .ok (.iconst 0, 1) := by decide +kernel
theorem dX5_step_31 : decode cX5_step 31 = .ok (.ireturn, 1) := by decide +kernel
theorem dX5_step_32 : decode cX5_step 32 = .ok (.aload_n 0, 1) := by decide +kernel
theorem dX5_step_33 : decode cX5_step 33 = .ok (.invokevirtual 122, 3) := by decide +kernel
theorem dX5_step_36 : decode cX5_step 36 = .ok (.istore_n 1, 1) := by decide +kernel
theorem dX5_step_37 : decode cX5_step 37 = .ok (.aload_n 0, 1) := by decide +kernel
theorem dX5_step_38 : decode cX5_step 38 = .ok (.getfield 37, 3) := by decide +kernel
theorem dX5_step_41 : decode cX5_step 41 = .ok (.aload_n 0, 1) := by decide +kernel
theorem dX5_step_42 : decode cX5_step 42 = .ok (.getfield 125, 3) := by decide +kernel
theorem dX5_step_45 : decode cX5_step 45 = .ok (.iaload, 1) := by decide +kernel
theorem dX5_step_46 : decode cX5_step 46 = .ok (.istore_n 2, 1) := by decide +kernel
theorem dX5_step_47 : decode cX5_step 47 = .ok (.aload_n 0, 1) := by decide +kernel
theorem dX5_step_48 : decode cX5_step 48 = .ok (.getfield 134, 3) := by decide +kernel
theorem dX5_step_51 : decode cX5_step 51 = .ok (.aload_n 0, 1) := by decide +kernel
theorem dX5_step_52 : decode cX5_step 52 = .ok (.getfield 7, 3) := by decide +kernel
theorem dX5_step_55 : decode cX5_step 55 = .ok (.iload_n 2, 1) := by decide +kernel
theorem dX5_step_56 : decode cX5_step 56 = .ok (.iaload, 1) := by decide +kernel
theorem dX5_step_57 : decode cX5_step 57 = .ok (.if_icmp .eq 23, 3) := by decide +kernel
theorem dX5_step_60 : decode cX5_step 60 = .ok (.aload_n 0, 1) := by decide +kernel
theorem dX5_step_61 : decode cX5_step 61 = .ok (.dup, 1) := by decide +kernel
theorem dX5_step_62 : decode cX5_step 62 = .ok (.getfield 131, 3) := by decide +kernel
theorem dX5_step_65 : decode cX5_step 65 = .ok (.iconst 5, 1) := by decide +kernel
theorem dX5_step_66 : decode cX5_step 66 = .ok (.iadd, 1) := by decide +kernel
theorem dX5_step_67 : decode cX5_step 67 = .ok (.putfield 131, 3) := by decide +kernel
theorem dX5_step_70 : decode cX5_step 70 = .ok (.aload_n 0, 1) := by decide +kernel
theorem dX5_step_71 : decode cX5_step 71 = .ok (.aload_n 0, 1) := by decide +kernel
theorem dX5_step_72 : decode cX5_step 72 = .ok (.getfield 7, 3) := by decide +kernel
theorem dX5_step_75 : decode cX5_step 75 = .ok (.iload_n 2, 1) := by decide +kernel
theorem dX5_step_76 : decode cX5_step 76 = .ok (.iaload, 1) := by decide +kernel
theorem dX5_step_77 : decode cX5_step 77 = .ok (.putfield 134, 3) := by decide +kernel
theorem dX5_step_80 : decode cX5_step 80 = .ok (.aload_n 0, 1) := by decide +kernel
theorem dX5_step_81 : decode cX5_step 81 = .ok (.getfield 19, 3) := by decide +kernel
theorem dX5_step_84 : decode cX5_step 84 = .ok (.iload_n 2, 1) := by decide +kernel
theorem dX5_step_85 : decode cX5_step 85 = .ok (.iaload, 1) := by decide +kernel
theorem dX5_step_86 : decode cX5_step 86 = .ok (.ifCond .le 43, 3) := by decide +kernel
theorem dX5_step_89 : decode cX5_step 89 = .ok (.aload_n 0, 1) := by decide +kernel
theorem dX5_step_90 : decode cX5_step 90 = .ok (.iload_n 2, 1) := by decide +kernel
theorem dX5_step_91 : decode cX5_step 91 = .ok (.invokevirtual 137, 3) := by decide +kernel
theorem dX5_step_94 : decode cX5_step 94 = .ok (.ifCond .ne 35, 3) := by decide +kernel
theorem dX5_step_97 : decode cX5_step 97 = .ok (.aload_n 0, 1) := by decide +kernel
theorem dX5_step_98 : decode cX5_step 98 = .ok (.getfield 19, 3) := by decide +kernel
theorem dX5_step_101 : decode cX5_step 101 = .ok (.iload_n 2, 1) := by decide +kernel
theorem dX5_step_102 : decode cX5_step 102 = .ok (.dup2, 1) := by decide +kernel
theorem dX5_step_103 : decode cX5_step 103 = .ok (.iaload, 1) := by decide +kernel
theorem dX5_step_104 : decode cX5_step 104 = .ok (.iconst 1, 1) := by decide +kernel
theorem dX5_step_105 : decode cX5_step 105 = .ok (.isub, 1) := by decide +kernel
theorem dX5_step_106 : decode cX5_step 106 = .ok (.iastore, 1) := by decide +kernel
theorem dX5_step_107 : decode cX5_step 107 = .ok (.aload_n 0, 1) := by decide +kernel
theorem dX5_step_108 : decode cX5_step 108 = .ok (.getfield 22, 3) := by decide +kernel
theorem dX5_step_111 : decode cX5_step 111 = .ok (.iload_n 2, 1) := by decide +kernel
theorem dX5_step_112 : decode cX5_step 112 = .ok (.dup2, 1) := by decide +kernel
theorem dX5_step_113 : decode cX5_step 113 = .ok (.iaload, 1) := by decide +kernel
theorem dX5_step_114 : decode cX5_step 114 = .ok (.iconst 1, 1) := by decide +kernel
theorem dX5_step_115 : decode cX5_step 115 = .ok (.iadd, 1) := by decide +kernel
theorem dX5_step_116 : decode cX5_step 116 = .ok (.iastore, 1) := by decide +kernel
theorem dX5_step_117 : decode cX5_step 117 = .ok (.aload_n 0, 1) := by decide +kernel
theorem dX5_step_118 : decode cX5_step 118 = .ok (.dup, 1) := by decide +kernel
theorem dX5_step_119 : decode cX5_step 119 = .ok (.getfield 131, 3) := by decide +kernel
theorem dX5_step_122 : decode cX5_step 122 = .ok (.iconst 3, 1) := by decide +kernel
theorem dX5_step_123 : decode cX5_step 123 = .ok (.iadd, 1) := by decide +kernel
theorem dX5_step_124 : decode cX5_step 124 = .ok (.putfield 131, 3) := by decide +kernel
theorem dX5_step_127 : decode cX5_step 127 = .ok (.iconst (-1), 1) := by decide +kernel
theorem dX5_step_128 : decode cX5_step 128 = .ok (.ireturn, 1) := by decide +kernel
theorem dX5_step_129 : decode cX5_step 129 = .ok (.aload_n 0, 1) := by decide +kernel
theorem dX5_step_130 : decode cX5_step 130 = .ok (.dup, 1) := by decide +kernel
theorem dX5_step_131 : decode cX5_step 131 = .ok (.getfield 131, 3) := by decide +kernel
theorem dX5_step_134 : decode cX5_step 134 = .ok (.aload_n 0, 1) := by decide +kernel
theorem dX5_step_135 : decode cX5_step 135 = .ok (.iload_n 2, 1) := by decide +kernel
theorem dX5_step_136 : decode cX5_step 136 = .ok (.invokevirtual 137, 3) := by decide +kernel
theorem dX5_step_139 : decode cX5_step 139 = .ok (.ifCond .eq 7, 3) := by decide +kernel
theorem dX5_step_142 : decode cX5_step 142 = .ok (.iconst 4, 1) := by decide +kernel
theorem dX5_step_143 : decode cX5_step 143 = .ok (.goto 4, 3) := by decide +kernel
theorem dX5_step_146 : decode cX5_step 146 = .ok (.iconst 1, 1) := by decide +kernel
theorem dX5_step_147 : decode cX5_step 147 = .ok (.iadd, 1) := by decide +kernel
theorem dX5_step_148 : decode cX5_step 148 = .ok (.putfield 131, 3) := by decide +kernel
theorem dX5_step_151 : decode cX5_step 151 = .ok (.aload_n 0, 1) := by decide +kernel
theorem dX5_step_152 : decode cX5_step 152 = .ok (.dup, 1) := by decide +kernel
theorem dX5_step_153 : decode cX5_step 153 = .ok (.getfield 128, 3) := by decide +kernel
theorem dX5_step_156 : decode cX5_step 156 = .ok (.iconst 1, 1) := by decide +kernel
theorem dX5_step_157 : decode cX5_step 157 = .ok (.iload_n 2, 1) := by decide +kernel
theorem dX5_step_158 : decode cX5_step 158 = .ok (.ishl, 1) := by decide +kernel
theorem dX5_step_159 : decode cX5_step 159 = .ok (.ior, 1) := by decide +kernel
theorem dX5_step_160 : decode cX5_step 160 = .ok (.putfield 128, 3) := by decide +kernel
theorem dX5_step_163 : decode cX5_step 163 = .ok (.aload_n 0, 1) := by decide +kernel
theorem dX5_step_164 : decode cX5_step 164 = .ok (.dup, 1) := by decide +kernel
theorem dX5_step_165 : decode cX5_step 165 = .ok (.getfield 125, 3) := by decide +kernel
theorem dX5_step_168 : decode cX5_step 168 = .ok (.iconst 1, 1) := by decide +kernel
theorem dX5_step_169 : decode cX5_step 169 = .ok (.iadd, 1) := by decide +kernel
theorem dX5_step_170 : decode cX5_step 170 = .ok (.putfield 125, 3) := by decide +kernel
theorem dX5_step_173 : decode cX5_step 173 = .ok (.aload_n 0, 1) := by decide +kernel
theorem dX5_step_174 : decode cX5_step 174 = .ok (.dup, 1) := by decide +kernel
theorem dX5_step_175 : decode cX5_step 175 = .ok (.getfield 131, 3) := by decide +kernel
theorem dX5_step_178 : decode cX5_step 178 = .ok (.aload_n 0, 1) := by decide +kernel
theorem dX5_step_179 : decode cX5_step 179 = .ok (.getfield 16, 3) := by decide +kernel
theorem dX5_step_182 : decode cX5_step 182 = .ok (.bipush 32, 2) := by decide +kernel
theorem dX5_step_184 : decode cX5_step 184 = .ok (.iload_n 2, 1) := by decide +kernel
theorem dX5_step_185 : decode cX5_step 185 = .ok (.iadd, 1) := by decide +kernel
theorem dX5_step_186 : decode cX5_step 186 = .ok (.iaload, 1) := by decide +kernel
theorem dX5_step_187 : decode cX5_step 187 = .ok (.aload_n 0, 1) := by decide +kernel
theorem dX5_step_188 : decode cX5_step 188 = .ok (.getfield 128, 3) := by decide +kernel
theorem dX5_step_191 : decode cX5_step 191 = .ok (.iand, 1) := by decide +kernel
theorem dX5_step_192 : decode cX5_step 192 = .ok (.ifCond .ne 7, 3) := by decide +kernel
theorem dX5_step_195 : decode cX5_step 195 = .ok (.iconst 1, 1) := by decide +kernel
theorem dX5_step_196 : decode cX5_step 196 = .ok (.goto 4, 3) := by decide +kernel
theorem dX5_step_199 : decode cX5_step 199 = .ok (.iconst 2, 1) := by decide +kernel
theorem dX5_step_200 : decode cX5_step 200 = .ok (.iadd, 1) := by decide +kernel
theorem dX5_step_201 : decode cX5_step 201 = .ok (.putfield 131, 3) := by decide +kernel
theorem dX5_step_204 : decode cX5_step 204 = .ok (.iload_n 2, 1) := by decide +kernel
theorem dX5_step_205 : decode cX5_step 205 = .ok (.ireturn, 1) := by decide +kernel
set_option maxRecDepth 20000 in
theorem ggX5_stepBack_X5_holds : GoodIn wsX5_stepBack wsX5_holds := goodIn_r _ [10, 11, 55, 56, 57, 58, 59, 60, 61, 62, 63, 64, 65, 66, 67, 68, 69, 70, 71, 72, 73] (by decide +kernel) (by decide +kernel)
set_option maxRecDepth 20000 in
theorem gX5_stepBack_X5_holds : GoodIn wsX5_stepBack (wsV RX5 51 RX5 yX5_holds wsX5_holds) := goodIn_app (goodIn_of _ (by decide +kernel)) ggX5_stepBack_X5_holds
set_option maxRecDepth 20000 in
theorem ggX5_stepBack_X5_best : GoodIn wsX5_stepBack wsX5_best := goodIn_r _ [15, 16, 17, 18, 4, 19, 20, 21, 9, 22, 23, 24, 25, 26, 27, 28, 29, 30, 31, 32, 33, 34, 35, 36, 37, 38, 39, 40, 41, 42, 43, 44, 45, 46, 47, 48, 49, 50, 51, 52, 53, 54, 55, 56, 57, 58, 59, 60, 61, 62, 63, 64, 65, 66, 67, 68, 69, 70, 71, 72, 73] (by decide +kernel) (by decide +kernel)
set_option maxRecDepth 20000 in
theorem gX5_stepBack_X5_best : GoodIn wsX5_stepBack (wsV RX5 122 RX5 yX5_best wsX5_best) := goodIn_app (goodIn_of _ (by decide +kernel)) ggX5_stepBack_X5_best
theorem dX5_stepBack_0 : decode cX5_stepBack 0 = .ok (.aload_n 0, 1) := by decide +kernel
theorem dX5_stepBack_1 : decode cX5_stepBack 1 = .ok (.aload_n 0, 1) := by decide +kernel
theorem dX5_stepBack_2 : decode cX5_stepBack 2 = .ok (.getfield 54, 3) := by decide +kernel
theorem dX5_stepBack_5 : decode cX5_stepBack 5 = .ok (.ifCond .eq 10, 3) := by decide +kernel
theorem dX5_stepBack_8 : decode cX5_stepBack 8 = .ok (.aload_n 0, 1) := by decide +kernel
theorem dX5_stepBack_9 : decode cX5_stepBack 9 = .ok (.getfield 125, 3) := by decide +kernel
theorem dX5_stepBack_12 : decode cX5_stepBack 12 = .ok (.ifCond .ne 7, 3) := by decide +kernel
theorem dX5_stepBack_15 : decode cX5_stepBack 15 = .ok (.iconst 1, 1) := by decide +kernel
theorem dX5_stepBack_16 : decode cX5_stepBack 16 = .ok (.goto 4, 3) := by decide +kernel
theorem dX5_stepBack_19 : decode cX5_stepBack 19 = .ok (.iconst 0, 1) := by decide +kernel
theorem dX5_stepBack_20 : decode cX5_stepBack 20 = .ok (.invokevirtual 51, 3) := by decide +kernel
theorem dX5_stepBack_23 : decode cX5_stepBack 23 = .ok (.ifCond .ne 5, 3) := by decide +kernel
theorem dX5_stepBack_26 : decode cX5_stepBack 26 = .ok (.iconst 0, 1) := by decide +kernel
theorem dX5_stepBack_27 : decode cX5_stepBack 27 = .ok (.ireturn, 1) := by decide +kernel
theorem dX5_stepBack_28 : decode cX5_stepBack 28 = .ok (.aload_n 0, 1) := by decide +kernel
theorem dX5_stepBack_29 : decode cX5_stepBack 29 = .ok (.invokevirtual 122, 3) := by decide +kernel
theorem dX5_stepBack_32 : decode cX5_stepBack 32 = .ok (.istore_n 1, 1) := by decide +kernel
theorem dX5_stepBack_33 : decode cX5_stepBack 33 = .ok (.aload_n 0, 1) := by decide +kernel
theorem dX5_stepBack_34 : decode cX5_stepBack 34 = .ok (.dup, 1) := by decide +kernel
theorem dX5_stepBack_35 : decode cX5_stepBack 35 = .ok (.getfield 125, 3) := by decide +kernel
theorem dX5_stepBack_38 : decode cX5_stepBack 38 = .ok (.iconst 1, 1) := by decide +kernel
theorem dX5_stepBack_39 : decode cX5_stepBack 39 = .ok (.isub, 1) := by decide +kernel
theorem dX5_stepBack_40 : decode cX5_stepBack 40 = .ok (.putfield 125, 3) := by decide +kernel
theorem dX5_stepBack_43 : decode cX5_stepBack 43 = .ok (.aload_n 0, 1) := by decide +kernel
theorem dX5_stepBack_44 : decode cX5_stepBack 44 = .ok (.dup, 1) := by decide +kernel
theorem dX5_stepBack_45 : decode cX5_stepBack 45 = .ok (.getfield 128, 3) := by decide +kernel
theorem dX5_stepBack_48 : decode cX5_stepBack 48 = .ok (.iconst 1, 1) := by decide +kernel
theorem dX5_stepBack_49 : decode cX5_stepBack 49 = .ok (.aload_n 0, 1) := by decide +kernel
theorem dX5_stepBack_50 : decode cX5_stepBack 50 = .ok (.getfield 37, 3) := by decide +kernel
theorem dX5_stepBack_53 : decode cX5_stepBack 53 = .ok (.aload_n 0, 1) := by decide +kernel
theorem dX5_stepBack_54 : decode cX5_stepBack 54 = .ok (.getfield 125, 3) := by decide +kernel
theorem dX5_stepBack_57 : decode cX5_stepBack 57 = .ok (.iaload, 1) := by decide +kernel
theorem dX5_stepBack_58 : decode cX5_stepBack 58 = .ok (.ishl, 1) := by decide +kernel
theorem dX5_stepBack_59 : decode cX5_stepBack 59 = .ok (.iconst (-1), 1) := by decide +kernel
theorem dX5_stepBack_60 : decode cX5_stepBack 60 = .ok (.ixor, 1) := by decide +kernel
theorem dX5_stepBack_61 : decode cX5_stepBack 61 = .ok (.iand, 1) := by decide +kernel
theorem dX5_stepBack_62 : decode cX5_stepBack 62 = .ok (.putfield 128, 3) := by decide +kernel
theorem dX5_stepBack_65 : decode cX5_stepBack 65 = .ok (.aload_n 0, 1) := by decide +kernel
theorem dX5_stepBack_66 : decode cX5_stepBack 66 = .ok (.dup, 1) := by decide +kernel
theorem dX5_stepBack_67 : decode cX5_stepBack 67 = .ok (.getfield 131, 3) := by decide +kernel
theorem dX5_stepBack_70 : decode cX5_stepBack 70 = .ok (.iconst 2, 1) := by decide +kernel
theorem dX5_stepBack_71 : decode cX5_stepBack 71 = .ok (.iadd, 1) := by decide +kernel
theorem dX5_stepBack_72 : decode cX5_stepBack 72 = .ok (.putfield 131, 3) := by decide +kernel
theorem dX5_stepBack_75 : decode cX5_stepBack 75 = .ok (.aload_n 0, 1) := by decide +kernel
theorem dX5_stepBack_76 : decode cX5_stepBack 76 = .ok (.getfield 37, 3) := by decide +kernel
theorem dX5_stepBack_79 : decode cX5_stepBack 79 = .ok (.aload_n 0, 1) := by decide +kernel
theorem dX5_stepBack_80 : decode cX5_stepBack 80 = .ok (.getfield 125, 3) := by decide +kernel
theorem dX5_stepBack_83 : decode cX5_stepBack 83 = .ok (.iaload, 1) := by decide +kernel
theorem dX5_stepBack_84 : decode cX5_stepBack 84 = .ok (.ireturn, 1) := by decide +kernel
theorem dX5_built_0 : decode cX5_built 0 = .ok (.aload_n 0, 1) := by decide +kernel
theorem dX5_built_1 : decode cX5_built 1 = .ok (.iconst 0, 1) := by decide +kernel
theorem dX5_built_2 : decode cX5_built 2 = .ok (.putfield 40, 3) := by decide +kernel
theorem dX5_built_5 : decode cX5_built 5 = .ok (.aload_n 0, 1) := by decide +kernel
theorem dX5_built_6 : decode cX5_built 6 = .ok (.getfield 54, 3) := by decide +kernel
theorem dX5_built_9 : decode cX5_built 9 = .ok (.ifCond .eq 10, 3) := by decide +kernel
theorem dX5_built_12 : decode cX5_built 12 = .ok (.aload_n 0, 1) := by decide +kernel
theorem dX5_built_13 : decode cX5_built 13 = .ok (.getfield 128, 3) := by decide +kernel
theorem dX5_built_16 : decode cX5_built 16 = .ok (.goto 4, 3) := by decide +kernel
theorem dX5_built_19 : decode cX5_built 19 = .ok (.iconst 0, 1) := by decide +kernel
theorem dX5_built_20 : decode cX5_built 20 = .ok (.ireturn, 1) := by decide +kernel
theorem dX5_clock_0 : decode cX5_clock 0 = .ok (.aload_n 0, 1) := by decide +kernel
theorem dX5_clock_1 : decode cX5_clock 1 = .ok (.iconst 0, 1) := by decide +kernel
theorem dX5_clock_2 : decode cX5_clock 2 = .ok (.putfield 40, 3) := by decide +kernel
theorem dX5_clock_5 : decode cX5_clock 5 = .ok (.aload_n 0, 1) := by decide +kernel
theorem dX5_clock_6 : decode cX5_clock 6 = .ok (.getfield 54, 3) := by decide +kernel
theorem dX5_clock_9 : decode cX5_clock 9 = .ok (.ifCond .eq 10, 3) := by decide +kernel
theorem dX5_clock_12 : decode cX5_clock 12 = .ok (.aload_n 0, 1) := by decide +kernel
theorem dX5_clock_13 : decode cX5_clock 13 = .ok (.getfield 131, 3) := by decide +kernel
theorem dX5_clock_16 : decode cX5_clock 16 = .ok (.goto 4, 3) := by decide +kernel
theorem dX5_clock_19 : decode cX5_clock 19 = .ok (.iconst 0, 1) := by decide +kernel
theorem dX5_clock_20 : decode cX5_clock 20 = .ok (.ireturn, 1) := by decide +kernel
theorem dX5_mounted_0 : decode cX5_mounted 0 = .ok (.aload_n 0, 1) := by decide +kernel
theorem dX5_mounted_1 : decode cX5_mounted 1 = .ok (.iconst 0, 1) := by decide +kernel
theorem dX5_mounted_2 : decode cX5_mounted 2 = .ok (.putfield 40, 3) := by decide +kernel
theorem dX5_mounted_5 : decode cX5_mounted 5 = .ok (.aload_n 0, 1) := by decide +kernel
theorem dX5_mounted_6 : decode cX5_mounted 6 = .ok (.getfield 54, 3) := by decide +kernel
theorem dX5_mounted_9 : decode cX5_mounted 9 = .ok (.ifCond .eq 10, 3) := by decide +kernel
theorem dX5_mounted_12 : decode cX5_mounted 12 = .ok (.aload_n 0, 1) := by decide +kernel
theorem dX5_mounted_13 : decode cX5_mounted 13 = .ok (.getfield 134, 3) := by decide +kernel
theorem dX5_mounted_16 : decode cX5_mounted 16 = .ok (.goto 4, 3) := by decide +kernel
theorem dX5_mounted_19 : decode cX5_mounted 19 = .ok (.iconst (-1), 1) := by decide +kernel
theorem dX5_mounted_20 : decode cX5_mounted 20 = .ok (.ireturn, 1) := by decide +kernel
set_option maxRecDepth 20000 in
theorem ggX5_isBypassed_X5_isPart : GoodIn wsX5_isBypassed wsX5_isPart := goodIn_r _ [6, 7, 18, 19, 20, 21, 22, 23, 24, 25, 26, 27, 28, 29, 30, 31, 32, 33, 34, 35, 36] (by decide +kernel) (by decide +kernel)
set_option maxRecDepth 20000 in
theorem gX5_isBypassed_X5_isPart : GoodIn wsX5_isBypassed (wsV RX5 58 RX5 yX5_isPart wsX5_isPart) := goodIn_app (goodIn_of _ (by decide +kernel)) ggX5_isBypassed_X5_isPart
set_option maxRecDepth 20000 in
theorem ggX5_isBypassed_X5_holds : GoodIn wsX5_isBypassed wsX5_holds := goodIn_r _ [11, 12, 18, 19, 20, 21, 22, 23, 24, 25, 26, 27, 28, 29, 30, 31, 32, 33, 34, 35, 36] (by decide +kernel) (by decide +kernel)
set_option maxRecDepth 20000 in
theorem gX5_isBypassed_X5_holds : GoodIn wsX5_isBypassed (wsV RX5 51 RX5 yX5_holds wsX5_holds) := goodIn_app (goodIn_of _ (by decide +kernel)) ggX5_isBypassed_X5_holds
set_option maxRecDepth 20000 in
theorem ggX5_isBypassed_X5_isPassed : GoodIn wsX5_isBypassed wsX5_isPassed := goodIn_r _ [16, 17, 18, 19, 20, 21, 22, 23, 24, 25, 26, 27, 28, 29, 30, 31, 32, 33, 34, 35, 36] (by decide +kernel) (by decide +kernel)
set_option maxRecDepth 20000 in
theorem gX5_isBypassed_X5_isPassed : GoodIn wsX5_isBypassed (wsV RX5 137 RX5 yX5_isPassed wsX5_isPassed) := goodIn_app (goodIn_of _ (by decide +kernel)) ggX5_isBypassed_X5_isPassed
theorem dX5_isBypassed_0 : decode cX5_isBypassed 0 = .ok (.aload_n 0, 1) := by decide +kernel
theorem dX5_isBypassed_1 : decode cX5_isBypassed 1 = .ok (.aload_n 0, 1) := by decide +kernel
theorem dX5_isBypassed_2 : decode cX5_isBypassed 2 = .ok (.iload_n 1, 1) := by decide +kernel
theorem dX5_isBypassed_3 : decode cX5_isBypassed 3 = .ok (.invokevirtual 58, 3) := by decide +kernel
theorem dX5_isBypassed_6 : decode cX5_isBypassed 6 = .ok (.ifCond .eq 7, 3) := by decide +kernel
theorem dX5_isBypassed_9 : decode cX5_isBypassed 9 = .ok (.iconst 0, 1) := by decide +kernel
theorem dX5_isBypassed_10 : decode cX5_isBypassed 10 = .ok (.goto 4, 3) := by decide +kernel
theorem dX5_isBypassed_13 : decode cX5_isBypassed 13 = .ok (.iconst 1, 1) := by decide +kernel
theorem dX5_isBypassed_14 : decode cX5_isBypassed 14 = .ok (.invokevirtual 51, 3) := by decide +kernel
theorem dX5_isBypassed_17 : decode cX5_isBypassed 17 = .ok (.ifCond .eq 22, 3) := by decide +kernel
theorem dX5_isBypassed_20 : decode cX5_isBypassed 20 = .ok (.aload_n 0, 1) := by decide +kernel
theorem dX5_isBypassed_21 : decode cX5_isBypassed 21 = .ok (.getfield 54, 3) := by decide +kernel
theorem dX5_isBypassed_24 : decode cX5_isBypassed 24 = .ok (.ifCond .eq 15, 3) := by decide +kernel
theorem dX5_isBypassed_27 : decode cX5_isBypassed 27 = .ok (.aload_n 0, 1) := by decide +kernel
theorem dX5_isBypassed_28 : decode cX5_isBypassed 28 = .ok (.iload_n 1, 1) := by decide +kernel
theorem dX5_isBypassed_29 : decode cX5_isBypassed 29 = .ok (.invokevirtual 137, 3) := by decide +kernel
theorem dX5_isBypassed_32 : decode cX5_isBypassed 32 = .ok (.ifCond .eq 7, 3) := by decide +kernel
theorem dX5_isBypassed_35 : decode cX5_isBypassed 35 = .ok (.iconst 1, 1) := by decide +kernel
theorem dX5_isBypassed_36 : decode cX5_isBypassed 36 = .ok (.goto 4, 3) := by decide +kernel
theorem dX5_isBypassed_39 : decode cX5_isBypassed 39 = .ok (.iconst 0, 1) := by decide +kernel
theorem dX5_isBypassed_40 : decode cX5_isBypassed 40 = .ok (.ireturn, 1) := by decide +kernel
end
