section
-- ===== PART A: goes FIRST, ahead of the names: the tables' words, and 'selects' of the private methods out of them =====
/-- a private method of a class that the tables say can be made, by its rows of tables_1 -/
def lw_okq (q : MethodName × Nat) : Prop := (q.1.cls ≠ "java/lang/invoke/MethodHandle" ∧ q.1.cls ≠ "java/lang/invoke/VarHandle") ∧ Cond.instantiable q.1.cls q.2 ∈ tables_1 ∧ Cond.privateMethod q.1 ∈ tables_1 ∧ Cond.instanceMethod q.1 ∈ tables_1
theorem lw_p0 : lw_okq (⟨"CappedRow", "failed", "(I)I"⟩, 13) := ⟨⟨by decide +kernel, by decide +kernel⟩, List.mem_of_getElem? (i := 16) (by decide +kernel), List.mem_of_getElem? (i := 243) (by decide +kernel), List.mem_of_getElem? (i := 244) (by decide +kernel)⟩
theorem lw_p1 : lw_okq (⟨"CappedRow$Text", "readDigits", "(LCappedRow$Sheet;II)V"⟩, 3) := ⟨⟨by decide +kernel, by decide +kernel⟩, List.mem_of_getElem? (i := 26) (by decide +kernel), List.mem_of_getElem? (i := 262) (by decide +kernel), List.mem_of_getElem? (i := 263) (by decide +kernel)⟩
theorem lw_p2 : lw_okq (⟨"CappedRow$Text", "firstFaultOfHelpers", "(LCappedRow$Sheet;II)I"⟩, 3) := ⟨⟨by decide +kernel, by decide +kernel⟩, List.mem_of_getElem? (i := 26) (by decide +kernel), List.mem_of_getElem? (i := 269) (by decide +kernel), List.mem_of_getElem? (i := 270) (by decide +kernel)⟩
theorem lw_p3 : lw_okq (⟨"CappedRow", "takeText", "()V"⟩, 13) := ⟨⟨by decide +kernel, by decide +kernel⟩, List.mem_of_getElem? (i := 16) (by decide +kernel), List.mem_of_getElem? (i := 280) (by decide +kernel), List.mem_of_getElem? (i := 281) (by decide +kernel)⟩
theorem lw_p4 : lw_okq (⟨"CappedRow", "beginAgain", "()V"⟩, 13) := ⟨⟨by decide +kernel, by decide +kernel⟩, List.mem_of_getElem? (i := 16) (by decide +kernel), List.mem_of_getElem? (i := 295) (by decide +kernel), List.mem_of_getElem? (i := 296) (by decide +kernel)⟩
theorem lw_p5 : lw_okq (⟨"CappedRow", "refusedAim", "(IIJ)I"⟩, 13) := ⟨⟨by decide +kernel, by decide +kernel⟩, List.mem_of_getElem? (i := 16) (by decide +kernel), List.mem_of_getElem? (i := 343) (by decide +kernel), List.mem_of_getElem? (i := 344) (by decide +kernel)⟩
theorem lw_p6 : lw_okq (⟨"CappedRow", "refusedRun", "(II)I"⟩, 13) := ⟨⟨by decide +kernel, by decide +kernel⟩, List.mem_of_getElem? (i := 16) (by decide +kernel), List.mem_of_getElem? (i := 347) (by decide +kernel), List.mem_of_getElem? (i := 348) (by decide +kernel)⟩
theorem lw_p7 : lw_okq (⟨"CappedRow", "act", "(IIIJ)I"⟩, 13) := ⟨⟨by decide +kernel, by decide +kernel⟩, List.mem_of_getElem? (i := 16) (by decide +kernel), List.mem_of_getElem? (i := 353) (by decide +kernel), List.mem_of_getElem? (i := 354) (by decide +kernel)⟩
theorem lw_p8 : lw_okq (⟨"CappedRow", "lost", "(I)J"⟩, 13) := ⟨⟨by decide +kernel, by decide +kernel⟩, List.mem_of_getElem? (i := 16) (by decide +kernel), List.mem_of_getElem? (i := 411) (by decide +kernel), List.mem_of_getElem? (i := 412) (by decide +kernel)⟩
theorem lw_p9 : lw_okq (⟨"CappedRow", "playDay", "(LCappedRow$Sheet;II)I"⟩, 13) := ⟨⟨by decide +kernel, by decide +kernel⟩, List.mem_of_getElem? (i := 16) (by decide +kernel), List.mem_of_getElem? (i := 419) (by decide +kernel), List.mem_of_getElem? (i := 420) (by decide +kernel)⟩
theorem lw_p10 : lw_okq (⟨"CappedRow", "canBe", "(LCappedRow$Act;)Z"⟩, 13) := ⟨⟨by decide +kernel, by decide +kernel⟩, List.mem_of_getElem? (i := 16) (by decide +kernel), List.mem_of_getElem? (i := 423) (by decide +kernel), List.mem_of_getElem? (i := 424) (by decide +kernel)⟩
theorem lw_p11 : lw_okq (⟨"CappedRow", "ofTrial", "(I)J"⟩, 13) := ⟨⟨by decide +kernel, by decide +kernel⟩, List.mem_of_getElem? (i := 16) (by decide +kernel), List.mem_of_getElem? (i := 428) (by decide +kernel), List.mem_of_getElem? (i := 429) (by decide +kernel)⟩
theorem lw_p12 : lw_okq (⟨"CappedRow", "mustOpen", "(IIIJ)Z"⟩, 13) := ⟨⟨by decide +kernel, by decide +kernel⟩, List.mem_of_getElem? (i := 16) (by decide +kernel), List.mem_of_getElem? (i := 475) (by decide +kernel), List.mem_of_getElem? (i := 476) (by decide +kernel)⟩
theorem lw_p13 : lw_okq (⟨"CappedRow", "fits", "(III)Z"⟩, 13) := ⟨⟨by decide +kernel, by decide +kernel⟩, List.mem_of_getElem? (i := 16) (by decide +kernel), List.mem_of_getElem? (i := 507) (by decide +kernel), List.mem_of_getElem? (i := 508) (by decide +kernel)⟩
theorem lw_p14 : lw_okq (⟨"CappedRow", "doubleBody", "(I)I"⟩, 13) := ⟨⟨by decide +kernel, by decide +kernel⟩, List.mem_of_getElem? (i := 16) (by decide +kernel), List.mem_of_getElem? (i := 565) (by decide +kernel), List.mem_of_getElem? (i := 566) (by decide +kernel)⟩
theorem lw_p15 : lw_okq (⟨"CappedRow", "leave", "(I)V"⟩, 13) := ⟨⟨by decide +kernel, by decide +kernel⟩, List.mem_of_getElem? (i := 16) (by decide +kernel), List.mem_of_getElem? (i := 569) (by decide +kernel), List.mem_of_getElem? (i := 570) (by decide +kernel)⟩
def lw_privs_1 : List (MethodName × Nat) := [(⟨"CappedRow", "failed", "(I)I"⟩, 13), (⟨"CappedRow$Text", "readDigits", "(LCappedRow$Sheet;II)V"⟩, 3), (⟨"CappedRow$Text", "firstFaultOfHelpers", "(LCappedRow$Sheet;II)I"⟩, 3), (⟨"CappedRow", "takeText", "()V"⟩, 13), (⟨"CappedRow", "beginAgain", "()V"⟩, 13), (⟨"CappedRow", "refusedAim", "(IIJ)I"⟩, 13), (⟨"CappedRow", "refusedRun", "(II)I"⟩, 13), (⟨"CappedRow", "act", "(IIIJ)I"⟩, 13), (⟨"CappedRow", "lost", "(I)J"⟩, 13), (⟨"CappedRow", "playDay", "(LCappedRow$Sheet;II)I"⟩, 13), (⟨"CappedRow", "canBe", "(LCappedRow$Act;)Z"⟩, 13), (⟨"CappedRow", "ofTrial", "(I)J"⟩, 13), (⟨"CappedRow", "mustOpen", "(IIIJ)Z"⟩, 13), (⟨"CappedRow", "fits", "(III)Z"⟩, 13), (⟨"CappedRow", "doubleBody", "(I)I"⟩, 13), (⟨"CappedRow", "leave", "(I)V"⟩, 13)]
theorem lw_r1 : ∀ q ∈ lw_privs_1, lw_okq q := List.forall_mem_cons.mpr ⟨lw_p0, List.forall_mem_cons.mpr ⟨lw_p1, List.forall_mem_cons.mpr ⟨lw_p2, List.forall_mem_cons.mpr ⟨lw_p3, List.forall_mem_cons.mpr ⟨lw_p4, List.forall_mem_cons.mpr ⟨lw_p5, List.forall_mem_cons.mpr ⟨lw_p6, List.forall_mem_cons.mpr ⟨lw_p7, List.forall_mem_cons.mpr ⟨lw_p8, List.forall_mem_cons.mpr ⟨lw_p9, List.forall_mem_cons.mpr ⟨lw_p10, List.forall_mem_cons.mpr ⟨lw_p11, List.forall_mem_cons.mpr ⟨lw_p12, List.forall_mem_cons.mpr ⟨lw_p13, List.forall_mem_cons.mpr ⟨lw_p14, List.forall_mem_cons.mpr ⟨lw_p15, fun _ h => absurd h List.not_mem_nil⟩⟩⟩⟩⟩⟩⟩⟩⟩⟩⟩⟩⟩⟩⟩⟩
theorem lw_p16 : lw_okq (⟨"CappedRow", "broadBody", "(I)I"⟩, 13) := ⟨⟨by decide +kernel, by decide +kernel⟩, List.mem_of_getElem? (i := 16) (by decide +kernel), List.mem_of_getElem? (i := 573) (by decide +kernel), List.mem_of_getElem? (i := 574) (by decide +kernel)⟩
theorem lw_p17 : lw_okq (⟨"CappedRow", "plainBody", "(I)I"⟩, 13) := ⟨⟨by decide +kernel, by decide +kernel⟩, List.mem_of_getElem? (i := 16) (by decide +kernel), List.mem_of_getElem? (i := 577) (by decide +kernel), List.mem_of_getElem? (i := 578) (by decide +kernel)⟩
theorem lw_p18 : lw_okq (⟨"CappedRowModel", "against", "(IIII)I"⟩, 31) := ⟨⟨by decide +kernel, by decide +kernel⟩, List.mem_of_getElem? (i := 606) (by decide +kernel), List.mem_of_getElem? (i := 719) (by decide +kernel), List.mem_of_getElem? (i := 720) (by decide +kernel)⟩
theorem lw_p19 : lw_okq (⟨"CappedRowModel", "fails", "(I)I"⟩, 31) := ⟨⟨by decide +kernel, by decide +kernel⟩, List.mem_of_getElem? (i := 606) (by decide +kernel), List.mem_of_getElem? (i := 723) (by decide +kernel), List.mem_of_getElem? (i := 724) (by decide +kernel)⟩
theorem lw_p20 : lw_okq (⟨"CappedRowModel", "readRow", "(I)Z"⟩, 31) := ⟨⟨by decide +kernel, by decide +kernel⟩, List.mem_of_getElem? (i := 606) (by decide +kernel), List.mem_of_getElem? (i := 727) (by decide +kernel), List.mem_of_getElem? (i := 728) (by decide +kernel)⟩
theorem lw_p21 : lw_okq (⟨"CappedRowModel", "isSign", "(II)Z"⟩, 31) := ⟨⟨by decide +kernel, by decide +kernel⟩, List.mem_of_getElem? (i := 606) (by decide +kernel), List.mem_of_getElem? (i := 731) (by decide +kernel), List.mem_of_getElem? (i := 732) (by decide +kernel)⟩
theorem lw_p22 : lw_okq (⟨"CappedRowModel", "digit", "(I)I"⟩, 31) := ⟨⟨by decide +kernel, by decide +kernel⟩, List.mem_of_getElem? (i := 606) (by decide +kernel), List.mem_of_getElem? (i := 735) (by decide +kernel), List.mem_of_getElem? (i := 736) (by decide +kernel)⟩
theorem lw_p23 : lw_okq (⟨"CappedRowModel", "readHelper", "(I)Z"⟩, 31) := ⟨⟨by decide +kernel, by decide +kernel⟩, List.mem_of_getElem? (i := 606) (by decide +kernel), List.mem_of_getElem? (i := 739) (by decide +kernel), List.mem_of_getElem? (i := 740) (by decide +kernel)⟩
theorem lw_p24 : lw_okq (⟨"CappedRowModel", "begins", "()V"⟩, 31) := ⟨⟨by decide +kernel, by decide +kernel⟩, List.mem_of_getElem? (i := 606) (by decide +kernel), List.mem_of_getElem? (i := 743) (by decide +kernel), List.mem_of_getElem? (i := 744) (by decide +kernel)⟩
theorem lw_p25 : lw_okq (⟨"CappedRowModel", "isHelper", "(I)Z"⟩, 31) := ⟨⟨by decide +kernel, by decide +kernel⟩, List.mem_of_getElem? (i := 606) (by decide +kernel), List.mem_of_getElem? (i := 751) (by decide +kernel), List.mem_of_getElem? (i := 752) (by decide +kernel)⟩
theorem lw_p26 : lw_okq (⟨"CappedRowModel", "strengthOf", "(I)I"⟩, 31) := ⟨⟨by decide +kernel, by decide +kernel⟩, List.mem_of_getElem? (i := 606) (by decide +kernel), List.mem_of_getElem? (i := 755) (by decide +kernel), List.mem_of_getElem? (i := 756) (by decide +kernel)⟩
theorem lw_p27 : lw_okq (⟨"CappedRowModel", "actsOf", "(I)I"⟩, 31) := ⟨⟨by decide +kernel, by decide +kernel⟩, List.mem_of_getElem? (i := 606) (by decide +kernel), List.mem_of_getElem? (i := 759) (by decide +kernel), List.mem_of_getElem? (i := 760) (by decide +kernel)⟩
theorem lw_p28 : lw_okq (⟨"CappedRowModel", "isCell", "(I)Z"⟩, 31) := ⟨⟨by decide +kernel, by decide +kernel⟩, List.mem_of_getElem? (i := 606) (by decide +kernel), List.mem_of_getElem? (i := 767) (by decide +kernel), List.mem_of_getElem? (i := 768) (by decide +kernel)⟩
theorem lw_p29 : lw_okq (⟨"CappedRowModel", "refused", "(IIJ)I"⟩, 31) := ⟨⟨by decide +kernel, by decide +kernel⟩, List.mem_of_getElem? (i := 606) (by decide +kernel), List.mem_of_getElem? (i := 776) (by decide +kernel), List.mem_of_getElem? (i := 777) (by decide +kernel)⟩
theorem lw_p30 : lw_okq (⟨"CappedRowModel", "does", "(IIIJ)I"⟩, 31) := ⟨⟨by decide +kernel, by decide +kernel⟩, List.mem_of_getElem? (i := 606) (by decide +kernel), List.mem_of_getElem? (i := 785) (by decide +kernel), List.mem_of_getElem? (i := 786) (by decide +kernel)⟩
theorem lw_p31 : lw_okq (⟨"CappedRowModel", "changed", "(JIJ)J"⟩, 31) := ⟨⟨by decide +kernel, by decide +kernel⟩, List.mem_of_getElem? (i := 606) (by decide +kernel), List.mem_of_getElem? (i := 789) (by decide +kernel), List.mem_of_getElem? (i := 790) (by decide +kernel)⟩
def lw_privs_2 : List (MethodName × Nat) := [(⟨"CappedRow", "broadBody", "(I)I"⟩, 13), (⟨"CappedRow", "plainBody", "(I)I"⟩, 13), (⟨"CappedRowModel", "against", "(IIII)I"⟩, 31), (⟨"CappedRowModel", "fails", "(I)I"⟩, 31), (⟨"CappedRowModel", "readRow", "(I)Z"⟩, 31), (⟨"CappedRowModel", "isSign", "(II)Z"⟩, 31), (⟨"CappedRowModel", "digit", "(I)I"⟩, 31), (⟨"CappedRowModel", "readHelper", "(I)Z"⟩, 31), (⟨"CappedRowModel", "begins", "()V"⟩, 31), (⟨"CappedRowModel", "isHelper", "(I)Z"⟩, 31), (⟨"CappedRowModel", "strengthOf", "(I)I"⟩, 31), (⟨"CappedRowModel", "actsOf", "(I)I"⟩, 31), (⟨"CappedRowModel", "isCell", "(I)Z"⟩, 31), (⟨"CappedRowModel", "refused", "(IIJ)I"⟩, 31), (⟨"CappedRowModel", "does", "(IIIJ)I"⟩, 31), (⟨"CappedRowModel", "changed", "(JIJ)J"⟩, 31)]
theorem lw_r2 : ∀ q ∈ lw_privs_2, lw_okq q := List.forall_mem_cons.mpr ⟨lw_p16, List.forall_mem_cons.mpr ⟨lw_p17, List.forall_mem_cons.mpr ⟨lw_p18, List.forall_mem_cons.mpr ⟨lw_p19, List.forall_mem_cons.mpr ⟨lw_p20, List.forall_mem_cons.mpr ⟨lw_p21, List.forall_mem_cons.mpr ⟨lw_p22, List.forall_mem_cons.mpr ⟨lw_p23, List.forall_mem_cons.mpr ⟨lw_p24, List.forall_mem_cons.mpr ⟨lw_p25, List.forall_mem_cons.mpr ⟨lw_p26, List.forall_mem_cons.mpr ⟨lw_p27, List.forall_mem_cons.mpr ⟨lw_p28, List.forall_mem_cons.mpr ⟨lw_p29, List.forall_mem_cons.mpr ⟨lw_p30, List.forall_mem_cons.mpr ⟨lw_p31, fun _ h => absurd h List.not_mem_nil⟩⟩⟩⟩⟩⟩⟩⟩⟩⟩⟩⟩⟩⟩⟩⟩
theorem lw_p32 : lw_okq (⟨"CappedRowModel", "writes", "(IIIJ)V"⟩, 31) := ⟨⟨by decide +kernel, by decide +kernel⟩, List.mem_of_getElem? (i := 606) (by decide +kernel), List.mem_of_getElem? (i := 793) (by decide +kernel), List.mem_of_getElem? (i := 794) (by decide +kernel)⟩
theorem lw_p33 : lw_okq (⟨"CappedRowModel", "lost", "(I)J"⟩, 31) := ⟨⟨by decide +kernel, by decide +kernel⟩, List.mem_of_getElem? (i := 606) (by decide +kernel), List.mem_of_getElem? (i := 817) (by decide +kernel), List.mem_of_getElem? (i := 818) (by decide +kernel)⟩
theorem lw_p34 : lw_okq (⟨"CappedRowModel", "keep", "()V"⟩, 31) := ⟨⟨by decide +kernel, by decide +kernel⟩, List.mem_of_getElem? (i := 606) (by decide +kernel), List.mem_of_getElem? (i := 821) (by decide +kernel), List.mem_of_getElem? (i := 822) (by decide +kernel)⟩
theorem lw_p35 : lw_okq (⟨"CappedRowModel", "goDay", "(II)I"⟩, 31) := ⟨⟨by decide +kernel, by decide +kernel⟩, List.mem_of_getElem? (i := 606) (by decide +kernel), List.mem_of_getElem? (i := 825) (by decide +kernel), List.mem_of_getElem? (i := 826) (by decide +kernel)⟩
theorem lw_p36 : lw_okq (⟨"CappedRowModel", "goesFour", "(I)Z"⟩, 31) := ⟨⟨by decide +kernel, by decide +kernel⟩, List.mem_of_getElem? (i := 606) (by decide +kernel), List.mem_of_getElem? (i := 829) (by decide +kernel), List.mem_of_getElem? (i := 830) (by decide +kernel)⟩
theorem lw_p37 : lw_okq (⟨"CappedRowModel", "tellDay", "(I)J"⟩, 31) := ⟨⟨by decide +kernel, by decide +kernel⟩, List.mem_of_getElem? (i := 606) (by decide +kernel), List.mem_of_getElem? (i := 833) (by decide +kernel), List.mem_of_getElem? (i := 834) (by decide +kernel)⟩
theorem lw_p38 : lw_okq (⟨"CappedRowModel", "sumOf", "(II)J"⟩, 31) := ⟨⟨by decide +kernel, by decide +kernel⟩, List.mem_of_getElem? (i := 606) (by decide +kernel), List.mem_of_getElem? (i := 837) (by decide +kernel), List.mem_of_getElem? (i := 838) (by decide +kernel)⟩
theorem lw_p39 : lw_okq (⟨"CappedRowModel", "greatestOf", "(II)J"⟩, 31) := ⟨⟨by decide +kernel, by decide +kernel⟩, List.mem_of_getElem? (i := 606) (by decide +kernel), List.mem_of_getElem? (i := 841) (by decide +kernel), List.mem_of_getElem? (i := 842) (by decide +kernel)⟩
theorem lw_p40 : lw_okq (⟨"CappedRowModel", "leastOf", "(II)J"⟩, 31) := ⟨⟨by decide +kernel, by decide +kernel⟩, List.mem_of_getElem? (i := 606) (by decide +kernel), List.mem_of_getElem? (i := 845) (by decide +kernel), List.mem_of_getElem? (i := 846) (by decide +kernel)⟩
theorem lw_p41 : lw_okq (⟨"CappedRowModel", "greatestEver", "(II)J"⟩, 31) := ⟨⟨by decide +kernel, by decide +kernel⟩, List.mem_of_getElem? (i := 606) (by decide +kernel), List.mem_of_getElem? (i := 849) (by decide +kernel), List.mem_of_getElem? (i := 850) (by decide +kernel)⟩
theorem lw_p42 : lw_okq (⟨"CappedRowModel", "putBack", "()V"⟩, 31) := ⟨⟨by decide +kernel, by decide +kernel⟩, List.mem_of_getElem? (i := 606) (by decide +kernel), List.mem_of_getElem? (i := 853) (by decide +kernel), List.mem_of_getElem? (i := 854) (by decide +kernel)⟩
theorem lw_p43 : lw_okq (⟨"CappedRowModel", "manyGreatest", "(II)I"⟩, 31) := ⟨⟨by decide +kernel, by decide +kernel⟩, List.mem_of_getElem? (i := 606) (by decide +kernel), List.mem_of_getElem? (i := 861) (by decide +kernel), List.mem_of_getElem? (i := 862) (by decide +kernel)⟩
theorem lw_p44 : lw_okq (⟨"CappedRowModel", "secondOf", "(II)J"⟩, 31) := ⟨⟨by decide +kernel, by decide +kernel⟩, List.mem_of_getElem? (i := 606) (by decide +kernel), List.mem_of_getElem? (i := 865) (by decide +kernel), List.mem_of_getElem? (i := 866) (by decide +kernel)⟩
theorem lw_p45 : lw_okq (⟨"CappedRowModel", "unlikeIn", "(II)I"⟩, 31) := ⟨⟨by decide +kernel, by decide +kernel⟩, List.mem_of_getElem? (i := 606) (by decide +kernel), List.mem_of_getElem? (i := 869) (by decide +kernel), List.mem_of_getElem? (i := 870) (by decide +kernel)⟩
theorem lw_p46 : lw_okq (⟨"CappedRowModel", "findSpan", "(I)Z"⟩, 31) := ⟨⟨by decide +kernel, by decide +kernel⟩, List.mem_of_getElem? (i := 606) (by decide +kernel), List.mem_of_getElem? (i := 877) (by decide +kernel), List.mem_of_getElem? (i := 878) (by decide +kernel)⟩
theorem lw_p47 : lw_okq (⟨"CappedRowModel", "opens", "(IIJ)Z"⟩, 31) := ⟨⟨by decide +kernel, by decide +kernel⟩, List.mem_of_getElem? (i := 606) (by decide +kernel), List.mem_of_getElem? (i := 885) (by decide +kernel), List.mem_of_getElem? (i := 886) (by decide +kernel)⟩
def lw_privs_3 : List (MethodName × Nat) := [(⟨"CappedRowModel", "writes", "(IIIJ)V"⟩, 31), (⟨"CappedRowModel", "lost", "(I)J"⟩, 31), (⟨"CappedRowModel", "keep", "()V"⟩, 31), (⟨"CappedRowModel", "goDay", "(II)I"⟩, 31), (⟨"CappedRowModel", "goesFour", "(I)Z"⟩, 31), (⟨"CappedRowModel", "tellDay", "(I)J"⟩, 31), (⟨"CappedRowModel", "sumOf", "(II)J"⟩, 31), (⟨"CappedRowModel", "greatestOf", "(II)J"⟩, 31), (⟨"CappedRowModel", "leastOf", "(II)J"⟩, 31), (⟨"CappedRowModel", "greatestEver", "(II)J"⟩, 31), (⟨"CappedRowModel", "putBack", "()V"⟩, 31), (⟨"CappedRowModel", "manyGreatest", "(II)I"⟩, 31), (⟨"CappedRowModel", "secondOf", "(II)J"⟩, 31), (⟨"CappedRowModel", "unlikeIn", "(II)I"⟩, 31), (⟨"CappedRowModel", "findSpan", "(I)Z"⟩, 31), (⟨"CappedRowModel", "opens", "(IIJ)Z"⟩, 31)]
theorem lw_r3 : ∀ q ∈ lw_privs_3, lw_okq q := List.forall_mem_cons.mpr ⟨lw_p32, List.forall_mem_cons.mpr ⟨lw_p33, List.forall_mem_cons.mpr ⟨lw_p34, List.forall_mem_cons.mpr ⟨lw_p35, List.forall_mem_cons.mpr ⟨lw_p36, List.forall_mem_cons.mpr ⟨lw_p37, List.forall_mem_cons.mpr ⟨lw_p38, List.forall_mem_cons.mpr ⟨lw_p39, List.forall_mem_cons.mpr ⟨lw_p40, List.forall_mem_cons.mpr ⟨lw_p41, List.forall_mem_cons.mpr ⟨lw_p42, List.forall_mem_cons.mpr ⟨lw_p43, List.forall_mem_cons.mpr ⟨lw_p44, List.forall_mem_cons.mpr ⟨lw_p45, List.forall_mem_cons.mpr ⟨lw_p46, List.forall_mem_cons.mpr ⟨lw_p47, fun _ h => absurd h List.not_mem_nil⟩⟩⟩⟩⟩⟩⟩⟩⟩⟩⟩⟩⟩⟩⟩⟩
theorem lw_p48 : lw_okq (⟨"CappedRowModel", "areSo", "()Z"⟩, 31) := ⟨⟨by decide +kernel, by decide +kernel⟩, List.mem_of_getElem? (i := 606) (by decide +kernel), List.mem_of_getElem? (i := 907) (by decide +kernel), List.mem_of_getElem? (i := 908) (by decide +kernel)⟩
theorem lw_p49 : lw_okq (⟨"CappedRowModel", "leaves", "(I)V"⟩, 31) := ⟨⟨by decide +kernel, by decide +kernel⟩, List.mem_of_getElem? (i := 606) (by decide +kernel), List.mem_of_getElem? (i := 946) (by decide +kernel), List.mem_of_getElem? (i := 947) (by decide +kernel)⟩
def lw_privs_4 : List (MethodName × Nat) := [(⟨"CappedRowModel", "areSo", "()Z"⟩, 31), (⟨"CappedRowModel", "leaves", "(I)V"⟩, 31)]
theorem lw_r4 : ∀ q ∈ lw_privs_4, lw_okq q := List.forall_mem_cons.mpr ⟨lw_p48, List.forall_mem_cons.mpr ⟨lw_p49, fun _ h => absurd h List.not_mem_nil⟩⟩
def lw_privs : List (MethodName × Nat) := lw_privs_1 ++ (lw_privs_2 ++ (lw_privs_3 ++ (lw_privs_4)))
def lw_tbl : List Cond := k2_sels lw_privs ++ tables_1
theorem lw_privs_ok : ∀ q ∈ lw_privs, lw_okq q := by
  show ∀ q ∈ lw_privs_1 ++ (lw_privs_2 ++ (lw_privs_3 ++ (lw_privs_4))), lw_okq q
  exact List.forall_mem_append.mpr ⟨lw_r1, List.forall_mem_append.mpr ⟨lw_r2, List.forall_mem_append.mpr ⟨lw_r3, lw_r4⟩⟩⟩
end
section
/-! ===== BEGIN words of one list among another's, by their places ===== -/
theorem goodIn_r {big : List Cond} (ws : List Cond) (ps : List Nat) (hp : ws = ps.filterMap (fun i => big[i]?)) (h : ws.all goodWord = true) : GoodIn big ws := by
  intro w hw
  have h1 := List.all_eq_true.mp h w hw
  rw [hp] at hw
  obtain ⟨i, -, hi⟩ := List.mem_filterMap.mp hw
  have hm : w ∈ big := by first | exact List.mem_of_getElem? hi | exact List.getElem?_mem hi
  exact ⟨hm, good_of_word h1⟩
theorem goodIn_app {big a b : List Cond} (ha : GoodIn big a) (hb : GoodIn big b) : GoodIn big (a ++ b) := fun w h => (List.mem_append.mp h).elim (ha w) (hb w)
theorem goodIn_ca {big a b : List Cond} {c : Cond} (ha : GoodIn big (c :: a)) (hb : GoodIn big b) : GoodIn big (c :: (a ++ b)) := fun w h => (List.mem_cons.mp h).elim (fun e => ha w (List.mem_cons.mpr (Or.inl e))) (fun h => (List.mem_append.mp h).elim (fun h => ha w (List.mem_cons.mpr (Or.inr h))) (hb w))
theorem goodIn_sub {big ws : List Cond} (hm : ∀ w ∈ ws, w ∈ big) (h : ws.all goodWord = true) : GoodIn big ws := fun w hw => ⟨hm w hw, good_of_word (List.all_eq_true.mp h w hw)⟩
/-! ===== END ===== -/

/-! ===== BEGIN printed: names, fields, word lists, decode rows ===== -/
def RX0 : String := "CappedRow$Act"
def TX0 : u_T := fun k => match k with
  | 0 => ("CappedRow$Act", "sort", "I", false)
  | 1 => ("CappedRow$Act", "from", "I", false)
  | 2 => ("CappedRow$Act", "to", "I", false)
  | _ => ("CappedRow$Act", "v", "J", false)
def tyX0 : Nat → FieldType := fun k => match k with
  | 0 => .int
  | 1 => .int
  | 2 => .int
  | _ => .long
abbrev wsX00 : List Cond := u_ws RX0 TX0 4
theorem nmX0 : ∀ a, a < 4 → ∀ b, b < 4 → a ≠ b → (TX0 a).2.1 ≠ (TX0 b).2.1 := by decide +kernel
theorem tyX0_ok : ∀ k, k < 4 → parseFieldDescriptor (TX0 k).2.2.1 = some (tyX0 k) := by decide +kernel
abbrev cX0_init : ByteArray := prog_2_method_1_code
def yX0_init : MethodName := ⟨RX0, "<init>", "()V"⟩
abbrev cX0_become : ByteArray := prog_2_method_2_code
def yX0_become : MethodName := ⟨RX0, "become", "(IIIJ)V"⟩
abbrev cX0_isHelp : ByteArray := prog_2_method_3_code
def yX0_isHelp : MethodName := ⟨RX0, "isHelp", "()Z"⟩
abbrev cX0_amount : ByteArray := prog_2_method_4_code
def yX0_amount : MethodName := ⟨RX0, "amount", "(LCappedRow$Helpers;)J"⟩
def RX1 : String := "CappedRow$Helpers"
def TX1 : u_T := fun k => match k with
  | 0 => ("CappedRow$Helpers", "count", "I", false)
  | 1 => ("CappedRow$Helpers", "kind", "[I", true)
  | _ => ("CappedRow$Helpers", "pace", "[I", true)
def tyX1 : Nat → FieldType := fun k => match k with
  | 0 => .int
  | 1 => .array .int
  | _ => .array .int
abbrev wsX10 : List Cond := u_ws RX1 TX1 3
theorem nmX1 : ∀ a, a < 3 → ∀ b, b < 3 → a ≠ b → (TX1 a).2.1 ≠ (TX1 b).2.1 := by decide +kernel
theorem tyX1_ok : ∀ k, k < 3 → parseFieldDescriptor (TX1 k).2.2.1 = some (tyX1 k) := by decide +kernel
abbrev cX1_init : ByteArray := prog_3_method_1_code
def yX1_init : MethodName := ⟨RX1, "<init>", "()V"⟩
abbrev cX1_has : ByteArray := prog_3_method_2_code
def yX1_has : MethodName := ⟨RX1, "has", "(J)Z"⟩
abbrev cX1_join : ByteArray := prog_3_method_3_code
def yX1_join : MethodName := ⟨RX1, "join", "(II)V"⟩
abbrev cX1_becomeLike : ByteArray := prog_3_method_4_code
def yX1_becomeLike : MethodName := ⟨RX1, "becomeLike", "(LCappedRow$Helpers;)V"⟩
abbrev cX1_strength : ByteArray := prog_3_method_5_code
def yX1_strength : MethodName := ⟨RX1, "strength", "(J)I"⟩
def RX2 : String := "CappedRow$Log"
def TX2 : u_T := fun k => match k with
  | 0 => ("CappedRow$Log", "count", "I", false)
  | _ => ("CappedRow$Log", "acts", "[LCappedRow$Act;", true)
def tyX2 : Nat → FieldType := fun k => match k with
  | 0 => .int
  | _ => .array (.object "CappedRow$Act")
abbrev wsX20 : List Cond := u_ws RX2 TX2 2
theorem nmX2 : ∀ a, a < 2 → ∀ b, b < 2 → a ≠ b → (TX2 a).2.1 ≠ (TX2 b).2.1 := by decide +kernel
theorem tyX2_ok : ∀ k, k < 2 → parseFieldDescriptor (TX2 k).2.2.1 = some (tyX2 k) := by decide +kernel
abbrev cX2_init : ByteArray := prog_4_method_1_code
def yX2_init : MethodName := ⟨RX2, "<init>", "()V"⟩
abbrev cX2_next : ByteArray := prog_4_method_2_code
def yX2_next : MethodName := ⟨RX2, "next", "()LCappedRow$Act;"⟩
abbrev cX2_actsOf : ByteArray := prog_4_method_3_code
def yX2_actsOf : MethodName := ⟨RX2, "actsOf", "(I)I"⟩
def RX3 : String := "CappedRow$Numbers"
def TX3 : u_T := fun k => match k with
  | 0 => ("CappedRow$Numbers", "count", "I", false)
  | 1 => ("CappedRow$Numbers", "number", "[J", true)
  | _ => ("CappedRow$Numbers", "historic", "[J", true)
def tyX3 : Nat → FieldType := fun k => match k with
  | 0 => .int
  | 1 => .array .long
  | _ => .array .long
abbrev wsX30 : List Cond := u_ws RX3 TX3 3
theorem nmX3 : ∀ a, a < 3 → ∀ b, b < 3 → a ≠ b → (TX3 a).2.1 ≠ (TX3 b).2.1 := by decide +kernel
theorem tyX3_ok : ∀ k, k < 3 → parseFieldDescriptor (TX3 k).2.2.1 = some (tyX3 k) := by decide +kernel
abbrev cX3_init : ByteArray := prog_5_method_1_code
def yX3_init : MethodName := ⟨RX3, "<init>", "()V"⟩
abbrev cX3_areThere : ByteArray := prog_5_method_2_code
def yX3_areThere : MethodName := ⟨RX3, "areThere", "()Z"⟩
abbrev cX3_has : ByteArray := prog_5_method_3_code
def yX3_has : MethodName := ⟨RX3, "has", "(I)Z"⟩
abbrev cX3_forgetWhatWas : ByteArray := prog_5_method_4_code
def yX3_forgetWhatWas : MethodName := ⟨RX3, "forgetWhatWas", "()V"⟩
abbrev cX3_becomeLike : ByteArray := prog_5_method_5_code
def yX3_becomeLike : MethodName := ⟨RX3, "becomeLike", "(LCappedRow$Numbers;)V"⟩
abbrev cX3_suffer : ByteArray := prog_5_method_6_code
def yX3_suffer : MethodName := ⟨RX3, "suffer", "(LCappedRow$Act;LCappedRow$Helpers;)I"⟩
abbrev cX3_changed : ByteArray := prog_5_method_7_code
def yX3_changed : MethodName := ⟨RX3, "changed", "(JIJ)J"⟩
def RX4 : String := "CappedRow$Readings"
def TX4 : u_T := fun k => match k with
  | 0 => ("CappedRow$Readings", "count", "I", false)
  | 1 => ("CappedRow$Readings", "cell", "[I", true)
  | _ => ("CappedRow$Readings", "value", "[J", true)
def tyX4 : Nat → FieldType := fun k => match k with
  | 0 => .int
  | 1 => .array .int
  | _ => .array .long
abbrev wsX40 : List Cond := u_ws RX4 TX4 3
theorem nmX4 : ∀ a, a < 3 → ∀ b, b < 3 → a ≠ b → (TX4 a).2.1 ≠ (TX4 b).2.1 := by decide +kernel
theorem tyX4_ok : ∀ k, k < 3 → parseFieldDescriptor (TX4 k).2.2.1 = some (tyX4 k) := by decide +kernel
abbrev cX4_init : ByteArray := prog_6_method_1_code
def yX4_init : MethodName := ⟨RX4, "<init>", "()V"⟩
abbrev cX4_keep : ByteArray := prog_6_method_2_code
def yX4_keep : MethodName := ⟨RX4, "keep", "(IJ)I"⟩
abbrev cX4_areSoBy : ByteArray := prog_6_method_3_code
def yX4_areSoBy : MethodName := ⟨RX4, "areSoBy", "(LCappedRow$Numbers;)Z"⟩
def RX5 : String := "CappedRow$Sheet"
def TX5 : u_T := fun k => match k with
  | 0 => ("CappedRow$Sheet", "hasRow", "Z", false)
  | 1 => ("CappedRow$Sheet", "lane", "I", false)
  | 2 => ("CappedRow$Sheet", "length", "I", false)
  | _ => ("CappedRow$Sheet", "cells", "[I", true)
def tyX5 : Nat → FieldType := fun k => match k with
  | 0 => .boolean
  | 1 => .int
  | 2 => .int
  | _ => .array .int
abbrev wsX50 : List Cond := u_ws RX5 TX5 4
theorem nmX5 : ∀ a, a < 4 → ∀ b, b < 4 → a ≠ b → (TX5 a).2.1 ≠ (TX5 b).2.1 := by decide +kernel
theorem tyX5_ok : ∀ k, k < 4 → parseFieldDescriptor (TX5 k).2.2.1 = some (tyX5 k) := by decide +kernel
abbrev cX5_init : ByteArray := prog_7_method_1_code
def yX5_init : MethodName := ⟨RX5, "<init>", "()V"⟩
abbrev cX5_getRow : ByteArray := prog_7_method_2_code
def yX5_getRow : MethodName := ⟨RX5, "getRow", "(II)V"⟩
abbrev cX5_loseRow : ByteArray := prog_7_method_3_code
def yX5_loseRow : MethodName := ⟨RX5, "loseRow", "()Z"⟩
abbrev cX5_faultTakenAs : ByteArray := prog_7_method_4_code
def yX5_faultTakenAs : MethodName := ⟨RX5, "faultTakenAs", "(I)I"⟩
abbrev cX5_hasCells : ByteArray := prog_7_method_5_code
def yX5_hasCells : MethodName := ⟨RX5, "hasCells", "(II)Z"⟩
abbrev cX5_code : ByteArray := prog_7_method_6_code
def yX5_code : MethodName := ⟨RX5, "code", "(I)I"⟩
abbrev cX5_cut : ByteArray := prog_7_method_7_code
def yX5_cut : MethodName := ⟨RX5, "cut", "(I)I"⟩
def RX6 : String := "CappedRow$Spans"
def TX6 : u_T := fun k => match k with
  | 0 => ("CappedRow$Spans", "first", "[I", true)
  | _ => ("CappedRow$Spans", "last", "[I", true)
def tyX6 : Nat → FieldType := fun k => match k with
  | 0 => .array .int
  | _ => .array .int
abbrev wsX60 : List Cond := u_ws RX6 TX6 2
theorem nmX6 : ∀ a, a < 2 → ∀ b, b < 2 → a ≠ b → (TX6 a).2.1 ≠ (TX6 b).2.1 := by decide +kernel
theorem tyX6_ok : ∀ k, k < 2 → parseFieldDescriptor (TX6 k).2.2.1 = some (tyX6 k) := by decide +kernel
abbrev cX6_init : ByteArray := prog_8_method_1_code
def yX6_init : MethodName := ⟨RX6, "<init>", "()V"⟩
abbrev cX6_has : ByteArray := prog_8_method_2_code
def yX6_has : MethodName := ⟨RX6, "has", "(I)Z"⟩
abbrev cX6_halve : ByteArray := prog_8_method_3_code
def yX6_halve : MethodName := ⟨RX6, "halve", "(I)V"⟩
abbrev cX6_count : ByteArray := prog_8_method_4_code
def yX6_count : MethodName := ⟨RX6, "count", "()I"⟩
def RX7 : String := "CappedRow$Text"
def TX7 : u_T := fun k => match k with
  | 0 => ("CappedRow$Text", "cells", "I", false)
  | 1 => ("CappedRow$Text", "digit", "[I", true)
  | _ => ("CappedRow$Text", "helpers", "LCappedRow$Helpers;", true)
def tyX7 : Nat → FieldType := fun k => match k with
  | 0 => .int
  | 1 => .array .int
  | _ => .object "CappedRow$Helpers"
abbrev wsX70 : List Cond := u_ws RX7 TX7 3
theorem nmX7 : ∀ a, a < 3 → ∀ b, b < 3 → a ≠ b → (TX7 a).2.1 ≠ (TX7 b).2.1 := by decide +kernel
theorem tyX7_ok : ∀ k, k < 3 → parseFieldDescriptor (TX7 k).2.2.1 = some (tyX7 k) := by decide +kernel
abbrev cX7_init : ByteArray := prog_9_method_1_code
def yX7_init : MethodName := ⟨RX7, "<init>", "()V"⟩
abbrev cX7_firstFault : ByteArray := prog_9_method_2_code
def yX7_firstFault : MethodName := ⟨RX7, "firstFault", "(LCappedRow$Sheet;II)I"⟩
abbrev cX7_readDigits : ByteArray := prog_9_method_3_code
def yX7_readDigits : MethodName := ⟨RX7, "readDigits", "(LCappedRow$Sheet;II)V"⟩
abbrev cX7_firstFaultOfHelpers : ByteArray := prog_9_method_4_code
def yX7_firstFaultOfHelpers : MethodName := ⟨RX7, "firstFaultOfHelpers", "(LCappedRow$Sheet;II)I"⟩
abbrev cX7_codeOf : ByteArray := prog_9_method_5_code
def yX7_codeOf : MethodName := ⟨RX7, "codeOf", "(LCappedRow$Sheet;III)I"⟩
abbrev cX7_isDigit : ByteArray := prog_9_method_6_code
def yX7_isDigit : MethodName := ⟨RX7, "isDigit", "(I)Z"⟩
abbrev cX7_kindOf : ByteArray := prog_9_method_7_code
def yX7_kindOf : MethodName := ⟨RX7, "kindOf", "(I)I"⟩
def RX8 : String := "CappedRow"
def TX8 : u_T := fun k => match k with
  | 0 => ("CappedRow", "sheets", "[LCappedRow$Sheet;", true)
  | 1 => ("CappedRow", "text", "LCappedRow$Text;", true)
  | 2 => ("CappedRow", "helpers", "LCappedRow$Helpers;", true)
  | 3 => ("CappedRow", "guessed", "LCappedRow$Helpers;", true)
  | 4 => ("CappedRow", "log", "LCappedRow$Log;", true)
  | 5 => ("CappedRow", "told", "LCappedRow$Act;", true)
  | 6 => ("CappedRow", "now", "LCappedRow$Numbers;", true)
  | 7 => ("CappedRow", "base", "LCappedRow$Numbers;", true)
  | 8 => ("CappedRow", "trial", "LCappedRow$Numbers;", true)
  | 9 => ("CappedRow", "spans", "LCappedRow$Spans;", true)
  | 10 => ("CappedRow", "readings", "LCappedRow$Readings;", true)
  | 11 => ("CappedRow", "traced", "I", false)
  | _ => ("CappedRow", "lastFault", "I", false)
def tyX8 : Nat → FieldType := fun k => match k with
  | 0 => .array (.object "CappedRow$Sheet")
  | 1 => .object "CappedRow$Text"
  | 2 => .object "CappedRow$Helpers"
  | 3 => .object "CappedRow$Helpers"
  | 4 => .object "CappedRow$Log"
  | 5 => .object "CappedRow$Act"
  | 6 => .object "CappedRow$Numbers"
  | 7 => .object "CappedRow$Numbers"
  | 8 => .object "CappedRow$Numbers"
  | 9 => .object "CappedRow$Spans"
  | 10 => .object "CappedRow$Readings"
  | 11 => .int
  | _ => .int
abbrev wsX80 : List Cond := u_ws RX8 TX8 13
theorem nmX8 : ∀ a, a < 13 → ∀ b, b < 13 → a ≠ b → (TX8 a).2.1 ≠ (TX8 b).2.1 := by decide +kernel
theorem tyX8_ok : ∀ k, k < 13 → parseFieldDescriptor (TX8 k).2.2.1 = some (tyX8 k) := by decide +kernel
abbrev cX8_init : ByteArray := prog_1_method_1_code
def yX8_init : MethodName := ⟨RX8, "<init>", "()V"⟩
abbrev cX8_row : ByteArray := prog_1_method_2_code
def yX8_row : MethodName := ⟨RX8, "row", "(IIII)I"⟩
abbrev cX8_takeText : ByteArray := prog_1_method_3_code
def yX8_takeText : MethodName := ⟨RX8, "takeText", "()V"⟩
abbrev cX8_beginAgain : ByteArray := prog_1_method_4_code
def yX8_beginAgain : MethodName := ⟨RX8, "beginAgain", "()V"⟩
abbrev cX8_ofHelper : ByteArray := prog_1_method_5_code
def yX8_ofHelper : MethodName := ⟨RX8, "ofHelper", "(II)I"⟩
abbrev cX8_at : ByteArray := prog_1_method_6_code
def yX8_at : MethodName := ⟨RX8, "at", "(II)J"⟩
abbrev cX8_add : ByteArray := prog_1_method_7_code
def yX8_add : MethodName := ⟨RX8, "add", "(IIJ)I"⟩
abbrev cX8_cap : ByteArray := prog_1_method_8_code
def yX8_cap : MethodName := ⟨RX8, "cap", "(IIJ)I"⟩
abbrev cX8_floor : ByteArray := prog_1_method_9_code
def yX8_floor : MethodName := ⟨RX8, "floor", "(IIJ)I"⟩
abbrev cX8_help : ByteArray := prog_1_method_10_code
def yX8_help : MethodName := ⟨RX8, "help", "(IIII)I"⟩
abbrev cX8_fresh : ByteArray := prog_1_method_11_code
def yX8_fresh : MethodName := ⟨RX8, "fresh", "()I"⟩
abbrev cX8_day : ByteArray := prog_1_method_12_code
def yX8_day : MethodName := ⟨RX8, "day", "(IIIII)J"⟩
abbrev cX8_act : ByteArray := prog_1_method_13_code
def yX8_act : MethodName := ⟨RX8, "act", "(IIIJ)I"⟩
abbrev cX8_isOfDay : ByteArray := prog_1_method_14_code
def yX8_isOfDay : MethodName := ⟨RX8, "isOfDay", "(I)Z"⟩
abbrev cX8_sortsAreKnown : ByteArray := prog_1_method_15_code
def yX8_sortsAreKnown : MethodName := ⟨RX8, "sortsAreKnown", "(LCappedRow$Sheet;II)Z"⟩
abbrev cX8_playDay : ByteArray := prog_1_method_16_code
def yX8_playDay : MethodName := ⟨RX8, "playDay", "(LCappedRow$Sheet;II)I"⟩
abbrev cX8_canBe : ByteArray := prog_1_method_17_code
def yX8_canBe : MethodName := ⟨RX8, "canBe", "(LCappedRow$Act;)Z"⟩
abbrev cX8_ofTrial : ByteArray := prog_1_method_18_code
def yX8_ofTrial : MethodName := ⟨RX8, "ofTrial", "(I)J"⟩
abbrev cX8_ask : ByteArray := prog_1_method_19_code
def yX8_ask : MethodName := ⟨RX8, "ask", "(III)J"⟩
abbrev cX8_ofSpan : ByteArray := prog_1_method_20_code
def yX8_ofSpan : MethodName := ⟨RX8, "ofSpan", "(II)J"⟩
abbrev cX8_looks : ByteArray := prog_1_method_21_code
def yX8_looks : MethodName := ⟨RX8, "looks", "(IIJ)I"⟩
abbrev cX8_unlike : ByteArray := prog_1_method_22_code
def yX8_unlike : MethodName := ⟨RX8, "unlike", "()I"⟩
abbrev cX8_mustOpen : ByteArray := prog_1_method_23_code
def yX8_mustOpen : MethodName := ⟨RX8, "mustOpen", "(IIIJ)Z"⟩
abbrev cX8_reading : ByteArray := prog_1_method_24_code
def yX8_reading : MethodName := ⟨RX8, "reading", "(IJ)I"⟩
abbrev cX8_back : ByteArray := prog_1_method_25_code
def yX8_back : MethodName := ⟨RX8, "back", "(I)I"⟩
abbrev cX8_kinds : ByteArray := prog_1_method_26_code
def yX8_kinds : MethodName := ⟨RX8, "kinds", "(I)I"⟩
abbrev cX8_paces : ByteArray := prog_1_method_27_code
def yX8_paces : MethodName := ⟨RX8, "paces", "(I)I"⟩
abbrev cX8_odds : ByteArray := prog_1_method_28_code
def yX8_odds : MethodName := ⟨RX8, "odds", "(IIJI)J"⟩
abbrev cX8_fits : ByteArray := prog_1_method_29_code
def yX8_fits : MethodName := ⟨RX8, "fits", "(III)Z"⟩
abbrev cX8_commonDivisor : ByteArray := prog_1_method_30_code
def yX8_commonDivisor : MethodName := ⟨RX8, "commonDivisor", "(II)I"⟩
abbrev cX8_sheet : ByteArray := prog_1_method_31_code
def yX8_sheet : MethodName := ⟨RX8, "sheet", "(III)I"⟩
abbrev cX8_lose : ByteArray := prog_1_method_32_code
def yX8_lose : MethodName := ⟨RX8, "lose", "(I)I"⟩
abbrev cX8_put : ByteArray := prog_1_method_33_code
def yX8_put : MethodName := ⟨RX8, "put", "(III)I"⟩
abbrev cX8_cell : ByteArray := prog_1_method_34_code
def yX8_cell : MethodName := ⟨RX8, "cell", "(III)J"⟩
abbrev cX8_copy : ByteArray := prog_1_method_35_code
def yX8_copy : MethodName := ⟨RX8, "copy", "(IIIII)I"⟩
abbrev cX8_tell : ByteArray := prog_1_method_36_code
def yX8_tell : MethodName := ⟨RX8, "tell", "(I)I"⟩
abbrev cX8_cheer : ByteArray := prog_1_method_37_code
def yX8_cheer : MethodName := ⟨RX8, "cheer", "(I)I"⟩
abbrev cX8_as : ByteArray := prog_1_method_38_code
def yX8_as : MethodName := ⟨RX8, "as", "(II)I"⟩
abbrev cX8_trace : ByteArray := prog_1_method_39_code
def yX8_trace : MethodName := ⟨RX8, "trace", "()I"⟩
abbrev cX8_fault : ByteArray := prog_1_method_40_code
def yX8_fault : MethodName := ⟨RX8, "fault", "()I"⟩
abbrev cX8_many : ByteArray := prog_1_method_41_code
def yX8_many : MethodName := ⟨RX8, "many", "(I)I"⟩
abbrev cX8_plainBody : ByteArray := prog_1_method_42_code
def yX8_plainBody : MethodName := ⟨RX8, "plainBody", "(I)I"⟩
abbrev cX8_broadBody : ByteArray := prog_1_method_43_code
def yX8_broadBody : MethodName := ⟨RX8, "broadBody", "(I)I"⟩
abbrev cX8_doubleBody : ByteArray := prog_1_method_44_code
def yX8_doubleBody : MethodName := ⟨RX8, "doubleBody", "(I)I"⟩
abbrev cX8_leave : ByteArray := prog_1_method_45_code
def yX8_leave : MethodName := ⟨RX8, "leave", "(I)V"⟩
abbrev cX8_isSheet : ByteArray := prog_1_method_46_code
def yX8_isSheet : MethodName := ⟨RX8, "isSheet", "(I)Z"⟩
abbrev cX8_isLane : ByteArray := prog_1_method_47_code
def yX8_isLane : MethodName := ⟨RX8, "isLane", "(I)Z"⟩
abbrev cX8_refusedRun : ByteArray := prog_1_method_48_code
def yX8_refusedRun : MethodName := ⟨RX8, "refusedRun", "(II)I"⟩
abbrev cX8_refusedAim : ByteArray := prog_1_method_49_code
def yX8_refusedAim : MethodName := ⟨RX8, "refusedAim", "(IIJ)I"⟩
abbrev cX8_failed : ByteArray := prog_1_method_50_code
def yX8_failed : MethodName := ⟨RX8, "failed", "(I)I"⟩
abbrev cX8_lost : ByteArray := prog_1_method_51_code
def yX8_lost : MethodName := ⟨RX8, "lost", "(I)J"⟩
abbrev cX8_sum : ByteArray := prog_1_method_52_code
def yX8_sum : MethodName := ⟨RX8, "sum", "([JII)J"⟩
abbrev cX8_greatest : ByteArray := prog_1_method_53_code
def yX8_greatest : MethodName := ⟨RX8, "greatest", "([JII)J"⟩
abbrev cX8_least : ByteArray := prog_1_method_54_code
def yX8_least : MethodName := ⟨RX8, "least", "([JII)J"⟩
abbrev cX8_second : ByteArray := prog_1_method_55_code
def yX8_second : MethodName := ⟨RX8, "second", "([JII)J"⟩
abbrev cX8_howManyFrom : ByteArray := prog_1_method_56_code
def yX8_howManyFrom : MethodName := ⟨RX8, "howManyFrom", "([JIIJ)I"⟩
abbrev cX8_howManyGreatest : ByteArray := prog_1_method_57_code
def yX8_howManyGreatest : MethodName := ⟨RX8, "howManyGreatest", "([JII)I"⟩
abbrev cX8_howManyUnlike : ByteArray := prog_1_method_58_code
def yX8_howManyUnlike : MethodName := ⟨RX8, "howManyUnlike", "([JII)I"⟩
abbrev cX8_standsAhead : ByteArray := prog_1_method_59_code
def yX8_standsAhead : MethodName := ⟨RX8, "standsAhead", "([JII)Z"⟩
def RX9 : String := "CappedRowModel"
def TX9 : u_T := fun k => match k with
  | 0 => ("CappedRowModel", "fault", "I", false)
  | 1 => ("CappedRowModel", "trace", "I", false)
  | 2 => ("CappedRowModel", "sorts", "[I", true)
  | 3 => ("CappedRowModel", "sheetLong", "[I", true)
  | 4 => ("CappedRowModel", "cells", "[I", true)
  | 5 => ("CappedRowModel", "many", "I", false)
  | 6 => ("CappedRowModel", "helpers", "I", false)
  | 7 => ("CappedRowModel", "numbers", "[J", true)
  | 8 => ("CappedRowModel", "historic", "[J", true)
  | 9 => ("CappedRowModel", "base", "[J", true)
  | 10 => ("CappedRowModel", "kind", "[I", true)
  | 11 => ("CappedRowModel", "pace", "[I", true)
  | 12 => ("CappedRowModel", "log", "I", false)
  | 13 => ("CappedRowModel", "logSort", "[I", true)
  | 14 => ("CappedRowModel", "logFrom", "[I", true)
  | 15 => ("CappedRowModel", "logTo", "[I", true)
  | 16 => ("CappedRowModel", "logNumber", "[J", true)
  | 17 => ("CappedRowModel", "at", "I", false)
  | 18 => ("CappedRowModel", "readMany", "I", false)
  | 19 => ("CappedRowModel", "readHelpers", "I", false)
  | 20 => ("CappedRowModel", "readNumbers", "[I", true)
  | 21 => ("CappedRowModel", "readKind", "[I", true)
  | 22 => ("CappedRowModel", "readPace", "[I", true)
  | 23 => ("CappedRowModel", "keptNumbers", "[J", true)
  | 24 => ("CappedRowModel", "keptHistoric", "[J", true)
  | 25 => ("CappedRowModel", "spanFirst", "I", false)
  | 26 => ("CappedRowModel", "spanLast", "I", false)
  | 27 => ("CappedRowModel", "lookedInto", "[I", true)
  | 28 => ("CappedRowModel", "readings", "I", false)
  | 29 => ("CappedRowModel", "readCell", "[I", true)
  | _ => ("CappedRowModel", "readNumber", "[J", true)
def tyX9 : Nat → FieldType := fun k => match k with
  | 0 => .int
  | 1 => .int
  | 2 => .array .int
  | 3 => .array .int
  | 4 => .array .int
  | 5 => .int
  | 6 => .int
  | 7 => .array .long
  | 8 => .array .long
  | 9 => .array .long
  | 10 => .array .int
  | 11 => .array .int
  | 12 => .int
  | 13 => .array .int
  | 14 => .array .int
  | 15 => .array .int
  | 16 => .array .long
  | 17 => .int
  | 18 => .int
  | 19 => .int
  | 20 => .array .int
  | 21 => .array .int
  | 22 => .array .int
  | 23 => .array .long
  | 24 => .array .long
  | 25 => .int
  | 26 => .int
  | 27 => .array .int
  | 28 => .int
  | 29 => .array .int
  | _ => .array .long
abbrev wsX90 : List Cond := u_ws RX9 TX9 31
theorem nmX9 : ∀ a, a < 31 → ∀ b, b < 31 → a ≠ b → (TX9 a).2.1 ≠ (TX9 b).2.1 := by decide +kernel
theorem tyX9_ok : ∀ k, k < 31 → parseFieldDescriptor (TX9 k).2.2.1 = some (tyX9 k) := by decide +kernel
abbrev cX9_init : ByteArray := prog_11_method_1_code
def yX9_init : MethodName := ⟨RX9, "<init>", "()V"⟩
abbrev cX9_fails : ByteArray := prog_11_method_3_code
def yX9_fails : MethodName := ⟨RX9, "fails", "(I)I"⟩
abbrev cX9_lost : ByteArray := prog_11_method_4_code
def yX9_lost : MethodName := ⟨RX9, "lost", "(I)J"⟩
abbrev cX9_within : ByteArray := prog_11_method_5_code
def yX9_within : MethodName := ⟨RX9, "within", "(III)Z"⟩
abbrev cX9_isBetween : ByteArray := prog_11_method_6_code
def yX9_isBetween : MethodName := ⟨RX9, "isBetween", "(JJJ)Z"⟩
abbrev cX9_isSheet : ByteArray := prog_11_method_7_code
def yX9_isSheet : MethodName := ⟨RX9, "isSheet", "(I)Z"⟩
abbrev cX9_isSort : ByteArray := prog_11_method_8_code
def yX9_isSort : MethodName := ⟨RX9, "isSort", "(I)Z"⟩
abbrev cX9_against : ByteArray := prog_11_method_9_code
def yX9_against : MethodName := ⟨RX9, "against", "(IIII)I"⟩
abbrev cX9_isCell : ByteArray := prog_11_method_10_code
def yX9_isCell : MethodName := ⟨RX9, "isCell", "(I)Z"⟩
abbrev cX9_isHelper : ByteArray := prog_11_method_11_code
def yX9_isHelper : MethodName := ⟨RX9, "isHelper", "(I)Z"⟩
abbrev cX9_digit : ByteArray := prog_11_method_12_code
def yX9_digit : MethodName := ⟨RX9, "digit", "(I)I"⟩
abbrev cX9_isSign : ByteArray := prog_11_method_13_code
def yX9_isSign : MethodName := ⟨RX9, "isSign", "(II)Z"⟩
abbrev cX9_row : ByteArray := prog_11_method_14_code
def yX9_row : MethodName := ⟨RX9, "row", "(IIII)I"⟩
abbrev cX9_begins : ByteArray := prog_11_method_15_code
def yX9_begins : MethodName := ⟨RX9, "begins", "()V"⟩
abbrev cX9_readRow : ByteArray := prog_11_method_16_code
def yX9_readRow : MethodName := ⟨RX9, "readRow", "(I)Z"⟩
abbrev cX9_readHelper : ByteArray := prog_11_method_17_code
def yX9_readHelper : MethodName := ⟨RX9, "readHelper", "(I)Z"⟩
abbrev cX9_strengthOf : ByteArray := prog_11_method_18_code
def yX9_strengthOf : MethodName := ⟨RX9, "strengthOf", "(I)I"⟩
abbrev cX9_ofHelper : ByteArray := prog_11_method_19_code
def yX9_ofHelper : MethodName := ⟨RX9, "ofHelper", "(II)I"⟩
abbrev cX9_actsOf : ByteArray := prog_11_method_20_code
def yX9_actsOf : MethodName := ⟨RX9, "actsOf", "(I)I"⟩
abbrev cX9_at : ByteArray := prog_11_method_21_code
def yX9_at : MethodName := ⟨RX9, "at", "(II)J"⟩
abbrev cX9_changed : ByteArray := prog_11_method_22_code
def yX9_changed : MethodName := ⟨RX9, "changed", "(JIJ)J"⟩
abbrev cX9_does : ByteArray := prog_11_method_23_code
def yX9_does : MethodName := ⟨RX9, "does", "(IIIJ)I"⟩
abbrev cX9_writes : ByteArray := prog_11_method_24_code
def yX9_writes : MethodName := ⟨RX9, "writes", "(IIIJ)V"⟩
abbrev cX9_refused : ByteArray := prog_11_method_25_code
def yX9_refused : MethodName := ⟨RX9, "refused", "(IIJ)I"⟩
abbrev cX9_add : ByteArray := prog_11_method_26_code
def yX9_add : MethodName := ⟨RX9, "add", "(IIJ)I"⟩
abbrev cX9_cap : ByteArray := prog_11_method_27_code
def yX9_cap : MethodName := ⟨RX9, "cap", "(IIJ)I"⟩
abbrev cX9_floor : ByteArray := prog_11_method_28_code
def yX9_floor : MethodName := ⟨RX9, "floor", "(IIJ)I"⟩
abbrev cX9_help : ByteArray := prog_11_method_29_code
def yX9_help : MethodName := ⟨RX9, "help", "(IIII)I"⟩
abbrev cX9_fresh : ByteArray := prog_11_method_30_code
def yX9_fresh : MethodName := ⟨RX9, "fresh", "()I"⟩
abbrev cX9_keep : ByteArray := prog_11_method_31_code
def yX9_keep : MethodName := ⟨RX9, "keep", "()V"⟩
abbrev cX9_putBack : ByteArray := prog_11_method_32_code
def yX9_putBack : MethodName := ⟨RX9, "putBack", "()V"⟩
abbrev cX9_goesFour : ByteArray := prog_11_method_33_code
def yX9_goesFour : MethodName := ⟨RX9, "goesFour", "(I)Z"⟩
abbrev cX9_goDay : ByteArray := prog_11_method_34_code
def yX9_goDay : MethodName := ⟨RX9, "goDay", "(II)I"⟩
abbrev cX9_day : ByteArray := prog_11_method_35_code
def yX9_day : MethodName := ⟨RX9, "day", "(IIIII)J"⟩
abbrev cX9_tellDay : ByteArray := prog_11_method_36_code
def yX9_tellDay : MethodName := ⟨RX9, "tellDay", "(I)J"⟩
abbrev cX9_sumOf : ByteArray := prog_11_method_37_code
def yX9_sumOf : MethodName := ⟨RX9, "sumOf", "(II)J"⟩
abbrev cX9_greatestOf : ByteArray := prog_11_method_38_code
def yX9_greatestOf : MethodName := ⟨RX9, "greatestOf", "(II)J"⟩
abbrev cX9_leastOf : ByteArray := prog_11_method_39_code
def yX9_leastOf : MethodName := ⟨RX9, "leastOf", "(II)J"⟩
abbrev cX9_manyGreatest : ByteArray := prog_11_method_40_code
def yX9_manyGreatest : MethodName := ⟨RX9, "manyGreatest", "(II)I"⟩
abbrev cX9_secondOf : ByteArray := prog_11_method_41_code
def yX9_secondOf : MethodName := ⟨RX9, "secondOf", "(II)J"⟩
abbrev cX9_unlikeIn : ByteArray := prog_11_method_42_code
def yX9_unlikeIn : MethodName := ⟨RX9, "unlikeIn", "(II)I"⟩
abbrev cX9_greatestEver : ByteArray := prog_11_method_43_code
def yX9_greatestEver : MethodName := ⟨RX9, "greatestEver", "(II)J"⟩
abbrev cX9_ask : ByteArray := prog_11_method_44_code
def yX9_ask : MethodName := ⟨RX9, "ask", "(III)J"⟩
abbrev cX9_findSpan : ByteArray := prog_11_method_45_code
def yX9_findSpan : MethodName := ⟨RX9, "findSpan", "(I)Z"⟩
abbrev cX9_ofSpan : ByteArray := prog_11_method_46_code
def yX9_ofSpan : MethodName := ⟨RX9, "ofSpan", "(II)J"⟩
abbrev cX9_opens : ByteArray := prog_11_method_47_code
def yX9_opens : MethodName := ⟨RX9, "opens", "(IIJ)Z"⟩
abbrev cX9_looks : ByteArray := prog_11_method_48_code
def yX9_looks : MethodName := ⟨RX9, "looks", "(IIJ)I"⟩
abbrev cX9_unlike : ByteArray := prog_11_method_49_code
def yX9_unlike : MethodName := ⟨RX9, "unlike", "()I"⟩
abbrev cX9_reading : ByteArray := prog_11_method_50_code
def yX9_reading : MethodName := ⟨RX9, "reading", "(IJ)I"⟩
abbrev cX9_back : ByteArray := prog_11_method_51_code
def yX9_back : MethodName := ⟨RX9, "back", "(I)I"⟩
abbrev cX9_areSo : ByteArray := prog_11_method_52_code
def yX9_areSo : MethodName := ⟨RX9, "areSo", "()Z"⟩
abbrev cX9_kinds : ByteArray := prog_11_method_53_code
def yX9_kinds : MethodName := ⟨RX9, "kinds", "(I)I"⟩
abbrev cX9_paces : ByteArray := prog_11_method_54_code
def yX9_paces : MethodName := ⟨RX9, "paces", "(I)I"⟩
abbrev cX9_inLeastTerms : ByteArray := prog_11_method_55_code
def yX9_inLeastTerms : MethodName := ⟨RX9, "inLeastTerms", "(JJI)J"⟩
abbrev cX9_odds : ByteArray := prog_11_method_56_code
def yX9_odds : MethodName := ⟨RX9, "odds", "(IIJI)J"⟩
abbrev cX9_sheet : ByteArray := prog_11_method_57_code
def yX9_sheet : MethodName := ⟨RX9, "sheet", "(III)I"⟩
abbrev cX9_lose : ByteArray := prog_11_method_58_code
def yX9_lose : MethodName := ⟨RX9, "lose", "(I)I"⟩
abbrev cX9_put : ByteArray := prog_11_method_59_code
def yX9_put : MethodName := ⟨RX9, "put", "(III)I"⟩
abbrev cX9_cell : ByteArray := prog_11_method_60_code
def yX9_cell : MethodName := ⟨RX9, "cell", "(III)J"⟩
abbrev cX9_copy : ByteArray := prog_11_method_61_code
def yX9_copy : MethodName := ⟨RX9, "copy", "(IIIII)I"⟩
abbrev cX9_leaves : ByteArray := prog_11_method_62_code
def yX9_leaves : MethodName := ⟨RX9, "leaves", "(I)V"⟩
abbrev cX9_tell : ByteArray := prog_11_method_63_code
def yX9_tell : MethodName := ⟨RX9, "tell", "(I)I"⟩
abbrev cX9_cheer : ByteArray := prog_11_method_64_code
def yX9_cheer : MethodName := ⟨RX9, "cheer", "(I)I"⟩
abbrev cX9_as : ByteArray := prog_11_method_65_code
def yX9_as : MethodName := ⟨RX9, "as", "(II)I"⟩
abbrev cX9_trace : ByteArray := prog_11_method_66_code
def yX9_trace : MethodName := ⟨RX9, "trace", "()I"⟩
abbrev cX9_fault : ByteArray := prog_11_method_67_code
def yX9_fault : MethodName := ⟨RX9, "fault", "()I"⟩
abbrev cX9_many : ByteArray := prog_11_method_68_code
def yX9_many : MethodName := ⟨RX9, "many", "(I)I"⟩
def RJ13 : String := "java/lang/Long"
def TJ13 : u_T := fun k => match k with
  | _ => ("", "", "", false)
def tyJ13 : Nat → FieldType := fun k => match k with
  | _ => .int
abbrev wsJ130 : List Cond := u_ws RJ13 TJ13 0
theorem nmJ13 : ∀ a, a < 0 → ∀ b, b < 0 → a ≠ b → (TJ13 a).2.1 ≠ (TJ13 b).2.1 := by decide +kernel
theorem tyJ13_ok : ∀ k, k < 0 → parseFieldDescriptor (TJ13 k).2.2.1 = some (tyJ13 k) := by decide +kernel
abbrev cJ13_bitCount_95d88 : ByteArray := prog_12_method_50_code
def yJ13_bitCount_95d88 : MethodName := ⟨RJ13, "bitCount", "(J)I"⟩
def RJ9 : String := "java/lang/Math"
def TJ9 : u_T := fun k => match k with
  | _ => ("", "", "", false)
def tyJ9 : Nat → FieldType := fun k => match k with
  | _ => .int
abbrev wsJ90 : List Cond := u_ws RJ9 TJ9 0
theorem nmJ9 : ∀ a, a < 0 → ∀ b, b < 0 → a ≠ b → (TJ9 a).2.1 ≠ (TJ9 b).2.1 := by decide +kernel
theorem tyJ9_ok : ∀ k, k < 0 → parseFieldDescriptor (TJ9 k).2.2.1 = some (tyJ9 k) := by decide +kernel
abbrev cJ9_max_f86c9 : ByteArray := prog_13_method_66_code
def yJ9_max_f86c9 : MethodName := ⟨RJ9, "max", "(JJ)J"⟩
abbrev cJ9_min_f86c9 : ByteArray := prog_13_method_70_code
def yJ9_min_f86c9 : MethodName := ⟨RJ9, "min", "(JJ)J"⟩
def RJ10 : String := "java/lang/System"
def TJ10 : u_T := fun k => match k with
  | _ => ("", "", "", false)
def tyJ10 : Nat → FieldType := fun k => match k with
  | _ => .int
abbrev wsJ100 : List Cond := u_ws RJ10 TJ10 0
theorem nmJ10 : ∀ a, a < 0 → ∀ b, b < 0 → a ≠ b → (TJ10 a).2.1 ≠ (TJ10 b).2.1 := by decide +kernel
theorem tyJ10_ok : ∀ k, k < 0 → parseFieldDescriptor (TJ10 k).2.2.1 = some (tyJ10 k) := by decide +kernel
def RJ7 : String := "java/util/Arrays"
def TJ7 : u_T := fun k => match k with
  | _ => ("", "", "", false)
def tyJ7 : Nat → FieldType := fun k => match k with
  | _ => .int
abbrev wsJ70 : List Cond := u_ws RJ7 TJ7 0
theorem nmJ7 : ∀ a, a < 0 → ∀ b, b < 0 → a ≠ b → (TJ7 a).2.1 ≠ (TJ7 b).2.1 := by decide +kernel
theorem tyJ7_ok : ∀ k, k < 0 → parseFieldDescriptor (TJ7 k).2.2.1 = some (tyJ7 k) := by decide +kernel
abbrev cJ7_fill_53178 : ByteArray := prog_15_method_103_code
def yJ7_fill_53178 : MethodName := ⟨RJ7, "fill", "([II)V"⟩
def RL : String := "CappedRowLaw"
abbrev cL_law : ByteArray := code
def yL_law : MethodName := ⟨RL, "law", "([I)Z"⟩
def wsX0_init : List Cond := .code yX0_init cX0_init 1 none :: ([.methodLink RX0 3 objectInit, .instanceMethod objectInit, .code objectInit ⟨#[0xb1]⟩ 1 none, .fieldLink RX0 9 "CappedRow$Act" "sort" "I", .fieldLink RX0 15 "CappedRow$Act" "from" "I", .fieldLink RX0 18 "CappedRow$Act" "to" "I", .fieldLink RX0 21 "CappedRow$Act" "v" "J"] ++ wsX00)
def wsX0_become : List Cond := .code yX0_become cX0_become 6 none :: ([.fieldLink RX0 9 "CappedRow$Act" "sort" "I", .fieldLink RX0 15 "CappedRow$Act" "from" "I", .fieldLink RX0 18 "CappedRow$Act" "to" "I", .fieldLink RX0 21 "CappedRow$Act" "v" "J"] ++ wsX00)
def wsX0_isHelp : List Cond := .code yX0_isHelp cX0_isHelp 1 (some .boolean) :: ([.fieldLink RX0 9 "CappedRow$Act" "sort" "I"] ++ wsX00)
def wsX1_has : List Cond := .code yX1_has cX1_has 3 (some .boolean) :: ([.fieldLink RX1 9 "CappedRow$Helpers" "count" "I"] ++ wsX10)
def wsX1_strength : List Cond := .code yX1_strength cX1_strength 4 (some .int) :: ([.fieldLink RX1 19 "CappedRow$Helpers" "pace" "[I", .fieldLink RX1 15 "CappedRow$Helpers" "kind" "[I", .methodLink RX1 28 yX1_has, .instanceMethod yX1_has, .selects RX1 yX1_has yX1_has, .initialized RX1, .code yX1_has cX1_has 3 (some .boolean), .fieldLink RX1 9 "CappedRow$Helpers" "count" "I"] ++ wsX10)
def wsX0_amount : List Cond := .code yX0_amount cX0_amount 2 (some .long) :: ([.fieldLink RX0 9 "CappedRow$Act" "sort" "I", .fieldLink RX0 21 "CappedRow$Act" "v" "J", .methodLink RX0 25 yX1_strength, .instanceMethod yX1_strength, .selects RX1 yX1_strength yX1_strength, .initialized RX1, .code yX1_strength cX1_strength 4 (some .int), .fieldLink RX1 19 "CappedRow$Helpers" "pace" "[I", .fieldLink RX1 15 "CappedRow$Helpers" "kind" "[I", .methodLink RX1 28 yX1_has, .instanceMethod yX1_has, .selects RX1 yX1_has yX1_has, .code yX1_has cX1_has 3 (some .boolean), .fieldLink RX1 9 "CappedRow$Helpers" "count" "I"] ++ wsX00 ++ wsX10)
def wsX1_init : List Cond := .code yX1_init cX1_init 1 none :: ([.methodLink RX1 3 objectInit, .instanceMethod objectInit, .code objectInit ⟨#[0xb1]⟩ 1 none, .fieldLink RX1 9 "CappedRow$Helpers" "count" "I", .arrayClass .int, .fieldLink RX1 15 "CappedRow$Helpers" "kind" "[I", .fieldLink RX1 19 "CappedRow$Helpers" "pace" "[I"] ++ wsX10)
def wsX1_join : List Cond := .code yX1_join cX1_join 3 none :: ([.fieldLink RX1 9 "CappedRow$Helpers" "count" "I", .fieldLink RX1 15 "CappedRow$Helpers" "kind" "[I", .fieldLink RX1 19 "CappedRow$Helpers" "pace" "[I"] ++ wsX10)
def wsX1_becomeLike : List Cond := .code yX1_becomeLike cX1_becomeLike 2 none :: ([.fieldLink RX1 9 "CappedRow$Helpers" "count" "I", .fieldLink RX1 15 "CappedRow$Helpers" "kind" "[I", .methodLink RX1 22 arraycopyName, .native arraycopyName, .static arraycopyName, .initialized "java/lang/System", .fieldLink RX1 19 "CappedRow$Helpers" "pace" "[I"] ++ wsX10)
def wsX2_init : List Cond := .code yX2_init cX2_init 2 none :: ([.methodLink RX2 3 objectInit, .instanceMethod objectInit, .code objectInit ⟨#[0xb1]⟩ 1 none, .fieldLink RX2 9 "CappedRow$Log" "count" "I", .classLink RX2 15 RX0, .fieldLink RX2 17 "CappedRow$Log" "acts" "[LCappedRow$Act;", .instantiable RX0 4, .initialized RX0, .instanceMethod yX0_init, .code yX0_init cX0_init 1 none, .methodLink RX0 3 objectInit, .fieldLink RX0 9 "CappedRow$Act" "sort" "I", .fieldLink RX0 15 "CappedRow$Act" "from" "I", .fieldLink RX0 18 "CappedRow$Act" "to" "I", .fieldLink RX0 21 "CappedRow$Act" "v" "J"] ++ wsX20 ++ wsX00)
def wsX2_next : List Cond := .code yX2_next cX2_next 1 (some (.object "CappedRow$Act")) :: ([.fieldLink RX2 9 "CappedRow$Log" "count" "I", .fieldLink RX2 17 "CappedRow$Log" "acts" "[LCappedRow$Act;"] ++ wsX20)
def wsX2_actsOf : List Cond := .code yX2_actsOf cX2_actsOf 4 (some .int) :: ([.fieldLink RX2 9 "CappedRow$Log" "count" "I", .fieldLink RX2 17 "CappedRow$Log" "acts" "[LCappedRow$Act;", .fieldLink RX2 26 "CappedRow$Act" "v" "J", .methodLink RX2 22 yX0_isHelp, .instanceMethod yX0_isHelp, .selects RX0 yX0_isHelp yX0_isHelp, .initialized RX0, .code yX0_isHelp cX0_isHelp 1 (some .boolean), .fieldLink RX0 9 "CappedRow$Act" "sort" "I"] ++ wsX20 ++ wsX00)
def wsX3_init : List Cond := .code yX3_init cX3_init 1 none :: ([.methodLink RX3 3 objectInit, .instanceMethod objectInit, .code objectInit ⟨#[0xb1]⟩ 1 none, .fieldLink RX3 9 "CappedRow$Numbers" "count" "I", .arrayClass .long, .fieldLink RX3 15 "CappedRow$Numbers" "number" "[J", .fieldLink RX3 19 "CappedRow$Numbers" "historic" "[J"] ++ wsX30)
def wsX3_areThere : List Cond := .code yX3_areThere cX3_areThere 1 (some .boolean) :: ([.fieldLink RX3 9 "CappedRow$Numbers" "count" "I"] ++ wsX30)
def wsX3_has : List Cond := .code yX3_has cX3_has 2 (some .boolean) :: ([.fieldLink RX3 9 "CappedRow$Numbers" "count" "I"] ++ wsX30)
def wsX3_forgetWhatWas : List Cond := .code yX3_forgetWhatWas cX3_forgetWhatWas 1 none :: ([.fieldLink RX3 15 "CappedRow$Numbers" "number" "[J", .fieldLink RX3 19 "CappedRow$Numbers" "historic" "[J", .methodLink RX3 22 arraycopyName, .native arraycopyName, .static arraycopyName, .initialized "java/lang/System"] ++ wsX30)
def wsX3_becomeLike : List Cond := .code yX3_becomeLike cX3_becomeLike 2 none :: ([.fieldLink RX3 9 "CappedRow$Numbers" "count" "I", .fieldLink RX3 15 "CappedRow$Numbers" "number" "[J", .methodLink RX3 22 arraycopyName, .native arraycopyName, .static arraycopyName, .initialized "java/lang/System", .methodLink RX3 28 yX3_forgetWhatWas, .instanceMethod yX3_forgetWhatWas, .selects RX3 yX3_forgetWhatWas yX3_forgetWhatWas, .initialized RX3, .code yX3_forgetWhatWas cX3_forgetWhatWas 1 none, .fieldLink RX3 19 "CappedRow$Numbers" "historic" "[J"] ++ wsX30)
def wsX3_changed : List Cond := .code yX3_changed cX3_changed 5 (some .long) :: ([.methodLink RX3 60 Lib.MathLoose.min_long.x, .static Lib.MathLoose.min_long.x, .initialized "java/lang/Math", .code Lib.MathLoose.min_long.x Lib.MathLoose.min_long.code 4 (some .long), .methodLink RX3 54 Lib.MathLoose.max_long.x, .static Lib.MathLoose.max_long.x, .code Lib.MathLoose.max_long.x Lib.MathLoose.max_long.code 4 (some .long)])
def wsX3_suffer_r1 : List Cond := [Cond.fieldLink RX3 31 "CappedRow$Act" "from" "I", Cond.fieldLink RX3 40 "CappedRow$Act" "to" "I", Cond.fieldLink RX3 15 "CappedRow$Numbers" "number" "[J", Cond.fieldLink RX3 47 "CappedRow$Act" "sort" "I", Cond.fieldLink RX3 19 "CappedRow$Numbers" "historic" "[J", Cond.methodLink RX3 54 Lib.MathLoose.max_long.x, Cond.static Lib.MathLoose.max_long.x, Cond.initialized "java/lang/Math", Cond.code Lib.MathLoose.max_long.x Lib.MathLoose.max_long.code 4 (some .long), Cond.methodLink RX3 36 yX3_has, Cond.instanceMethod yX3_has, Cond.selects RX3 yX3_has yX3_has, Cond.initialized RX3, Cond.code yX3_has cX3_has 2 (some .boolean), Cond.fieldLink RX3 9 "CappedRow$Numbers" "count" "I", Cond.methodLink RX3 43 yX0_amount, Cond.instanceMethod yX0_amount, Cond.selects RX0 yX0_amount yX0_amount, Cond.initialized RX0, Cond.code yX0_amount cX0_amount 2 (some .long), Cond.fieldLink RX0 9 "CappedRow$Act" "sort" "I", Cond.fieldLink RX0 21 "CappedRow$Act" "v" "J", Cond.methodLink RX0 25 yX1_strength, Cond.instanceMethod yX1_strength]
def wsX3_suffer_r2 : List Cond := [Cond.selects RX1 yX1_strength yX1_strength, Cond.initialized RX1, Cond.code yX1_strength cX1_strength 4 (some .int), Cond.fieldLink RX1 19 "CappedRow$Helpers" "pace" "[I", Cond.fieldLink RX1 15 "CappedRow$Helpers" "kind" "[I", Cond.methodLink RX1 28 yX1_has, Cond.instanceMethod yX1_has, Cond.selects RX1 yX1_has yX1_has, Cond.code yX1_has cX1_has 3 (some .boolean), Cond.fieldLink RX1 9 "CappedRow$Helpers" "count" "I", Cond.methodLink RX3 50 yX3_changed, Cond.static yX3_changed, Cond.code yX3_changed cX3_changed 5 (some .long), Cond.methodLink RX3 60 Lib.MathLoose.min_long.x, Cond.static Lib.MathLoose.min_long.x, Cond.code Lib.MathLoose.min_long.x Lib.MathLoose.min_long.code 4 (some .long)]
def wsX3_suffer : List Cond := .code yX3_suffer cX3_suffer 9 (some .int) :: ((wsX3_suffer_r1 ++ wsX3_suffer_r2) ++ wsX00 ++ wsX30 ++ wsX10)
def wsX4_init : List Cond := .code yX4_init cX4_init 1 none :: ([.methodLink RX4 3 objectInit, .instanceMethod objectInit, .code objectInit ⟨#[0xb1]⟩ 1 none, .fieldLink RX4 9 "CappedRow$Readings" "count" "I", .arrayClass .int, .fieldLink RX4 15 "CappedRow$Readings" "cell" "[I", .arrayClass .long, .fieldLink RX4 19 "CappedRow$Readings" "value" "[J"] ++ wsX40)
def wsX4_keep : List Cond := .code yX4_keep cX4_keep 4 (some .int) :: ([.fieldLink RX4 9 "CappedRow$Readings" "count" "I", .fieldLink RX4 15 "CappedRow$Readings" "cell" "[I", .fieldLink RX4 19 "CappedRow$Readings" "value" "[J"] ++ wsX40)
def wsX4_areSoBy : List Cond := .code yX4_areSoBy cX4_areSoBy 3 (some .boolean) :: ([.fieldLink RX4 9 "CappedRow$Readings" "count" "I", .fieldLink RX4 15 "CappedRow$Readings" "cell" "[I", .fieldLink RX4 29 "CappedRow$Numbers" "number" "[J", .fieldLink RX4 19 "CappedRow$Readings" "value" "[J", .methodLink RX4 23 yX3_has, .instanceMethod yX3_has, .selects RX3 yX3_has yX3_has, .initialized RX3, .code yX3_has cX3_has 2 (some .boolean), .fieldLink RX3 9 "CappedRow$Numbers" "count" "I"] ++ wsX40 ++ wsX30)
def wsX5_init : List Cond := .code yX5_init cX5_init 1 none :: ([.methodLink RX5 3 objectInit, .instanceMethod objectInit, .code objectInit ⟨#[0xb1]⟩ 1 none, .fieldLink RX5 9 "CappedRow$Sheet" "hasRow" "Z", .fieldLink RX5 15 "CappedRow$Sheet" "lane" "I", .fieldLink RX5 19 "CappedRow$Sheet" "length" "I", .arrayClass .int, .fieldLink RX5 22 "CappedRow$Sheet" "cells" "[I"] ++ wsX50)
def wsJ7_fill_53178 : List Cond := .code yJ7_fill_53178 cJ7_fill_53178 4 none :: ([])
def wsX5_getRow : List Cond := .code yX5_getRow cX5_getRow 3 none :: ([.fieldLink RX5 9 "CappedRow$Sheet" "hasRow" "Z", .fieldLink RX5 15 "CappedRow$Sheet" "lane" "I", .fieldLink RX5 19 "CappedRow$Sheet" "length" "I", .fieldLink RX5 22 "CappedRow$Sheet" "cells" "[I", .methodLink RX5 26 yJ7_fill_53178, .static yJ7_fill_53178, .initialized RJ7, .code yJ7_fill_53178 cJ7_fill_53178 4 none] ++ wsX50)
def wsX5_loseRow : List Cond := .code yX5_loseRow cX5_loseRow 2 (some .boolean) :: ([.fieldLink RX5 9 "CappedRow$Sheet" "hasRow" "Z", .fieldLink RX5 19 "CappedRow$Sheet" "length" "I"] ++ wsX50)
def wsX5_faultTakenAs : List Cond := .code yX5_faultTakenAs cX5_faultTakenAs 2 (some .int) :: ([.fieldLink RX5 9 "CappedRow$Sheet" "hasRow" "Z", .fieldLink RX5 15 "CappedRow$Sheet" "lane" "I"] ++ wsX50)
def wsX5_hasCells : List Cond := .code yX5_hasCells cX5_hasCells 3 (some .boolean) :: ([.fieldLink RX5 19 "CappedRow$Sheet" "length" "I"] ++ wsX50)
def wsX5_code : List Cond := .code yX5_code cX5_code 2 (some .int) :: ([.fieldLink RX5 19 "CappedRow$Sheet" "length" "I", .fieldLink RX5 22 "CappedRow$Sheet" "cells" "[I"] ++ wsX50)
def wsX5_cut : List Cond := .code yX5_cut cX5_cut 2 (some .int) :: ([.fieldLink RX5 15 "CappedRow$Sheet" "lane" "I"] ++ wsX50)
def wsX6_init : List Cond := .code yX6_init cX6_init 1 none :: ([.methodLink RX6 3 objectInit, .instanceMethod objectInit, .code objectInit ⟨#[0xb1]⟩ 1 none, .arrayClass .int, .fieldLink RX6 9 "CappedRow$Spans" "first" "[I", .fieldLink RX6 15 "CappedRow$Spans" "last" "[I", .methodLink RX6 18 yJ7_fill_53178, .static yJ7_fill_53178, .initialized RJ7, .code yJ7_fill_53178 cJ7_fill_53178 4 none] ++ wsX60)
def wsX6_has : List Cond := .code yX6_has cX6_has 2 (some .boolean) :: ([.fieldLink RX6 9 "CappedRow$Spans" "first" "[I", .fieldLink RX6 15 "CappedRow$Spans" "last" "[I"] ++ wsX60)
def wsX6_halve : List Cond := .code yX6_halve cX6_halve 6 none :: ([.fieldLink RX6 15 "CappedRow$Spans" "last" "[I", .fieldLink RX6 9 "CappedRow$Spans" "first" "[I"] ++ wsX60)
def wsX6_count : List Cond := .code yX6_count cX6_count 3 (some .int) :: ([.methodLink RX6 24 yX6_has, .instanceMethod yX6_has, .selects RX6 yX6_has yX6_has, .initialized RX6, .code yX6_has cX6_has 2 (some .boolean), .fieldLink RX6 9 "CappedRow$Spans" "first" "[I", .fieldLink RX6 15 "CappedRow$Spans" "last" "[I"] ++ wsX60)
def wsX7_init : List Cond := .code yX7_init cX7_init 1 none :: ([.methodLink RX7 3 objectInit, .instanceMethod objectInit, .code objectInit ⟨#[0xb1]⟩ 1 none, .fieldLink RX7 9 "CappedRow$Text" "cells" "I", .arrayClass .int, .fieldLink RX7 15 "CappedRow$Text" "digit" "[I", .classLink RX7 19 RX1, .instantiable RX1 3, .initialized RX1, .fieldLink RX7 22 "CappedRow$Text" "helpers" "LCappedRow$Helpers;", .instanceMethod yX1_init, .code yX1_init cX1_init 1 none, .methodLink RX1 3 objectInit, .fieldLink RX1 9 "CappedRow$Helpers" "count" "I", .fieldLink RX1 15 "CappedRow$Helpers" "kind" "[I", .fieldLink RX1 19 "CappedRow$Helpers" "pace" "[I"] ++ wsX70 ++ wsX10)
def wsX7_codeOf : List Cond := .code yX7_codeOf cX7_codeOf 4 (some .int) :: ([.methodLink RX7 53 yX5_code, .instanceMethod yX5_code, .selects RX5 yX5_code yX5_code, .initialized RX5, .code yX5_code cX5_code 2 (some .int), .fieldLink RX5 19 "CappedRow$Sheet" "length" "I", .fieldLink RX5 22 "CappedRow$Sheet" "cells" "[I"] ++ wsX50)
def wsX7_isDigit : List Cond := .code yX7_isDigit cX7_isDigit 1 (some .boolean) :: ([])
def wsX7_readDigits : List Cond := .code yX7_readDigits cX7_readDigits 6 none :: ([.fieldLink RX7 15 "CappedRow$Text" "digit" "[I", .fieldLink RX7 9 "CappedRow$Text" "cells" "I", .methodLink RX7 29 yX7_codeOf, .static yX7_codeOf, .initialized RX7, .code yX7_codeOf cX7_codeOf 4 (some .int), .methodLink RX7 53 yX5_code, .instanceMethod yX5_code, .selects RX5 yX5_code yX5_code, .initialized RX5, .code yX5_code cX5_code 2 (some .int), .fieldLink RX5 19 "CappedRow$Sheet" "length" "I", .fieldLink RX5 22 "CappedRow$Sheet" "cells" "[I", .methodLink RX7 41 yX7_isDigit, .static yX7_isDigit, .code yX7_isDigit cX7_isDigit 1 (some .boolean)] ++ wsX70 ++ wsX50)
def wsX7_kindOf : List Cond := .code yX7_kindOf cX7_kindOf 1 (some .int) :: ([])
def wsX7_firstFaultOfHelpers_r1 : List Cond := [Cond.fieldLink RX7 9 "CappedRow$Text" "cells" "I", Cond.fieldLink RX7 22 "CappedRow$Text" "helpers" "LCappedRow$Helpers;", Cond.methodLink RX7 29 yX7_codeOf, Cond.static yX7_codeOf, Cond.initialized RX7, Cond.code yX7_codeOf cX7_codeOf 4 (some .int), Cond.methodLink RX7 53 yX5_code, Cond.instanceMethod yX5_code, Cond.selects RX5 yX5_code yX5_code, Cond.initialized RX5, Cond.code yX5_code cX5_code 2 (some .int), Cond.fieldLink RX5 19 "CappedRow$Sheet" "length" "I", Cond.fieldLink RX5 22 "CappedRow$Sheet" "cells" "[I", Cond.methodLink RX7 45 yX7_kindOf, Cond.static yX7_kindOf, Cond.code yX7_kindOf cX7_kindOf 1 (some .int), Cond.methodLink RX7 41 yX7_isDigit, Cond.static yX7_isDigit, Cond.code yX7_isDigit cX7_isDigit 1 (some .boolean), Cond.methodLink RX7 49 yX1_join, Cond.instanceMethod yX1_join, Cond.selects RX1 yX1_join yX1_join, Cond.initialized RX1, Cond.code yX1_join cX1_join 3 none]
def wsX7_firstFaultOfHelpers_r2 : List Cond := [Cond.fieldLink RX1 9 "CappedRow$Helpers" "count" "I", Cond.fieldLink RX1 15 "CappedRow$Helpers" "kind" "[I", Cond.fieldLink RX1 19 "CappedRow$Helpers" "pace" "[I"]
def wsX7_firstFaultOfHelpers : List Cond := .code yX7_firstFaultOfHelpers cX7_firstFaultOfHelpers 8 (some .int) :: ((wsX7_firstFaultOfHelpers_r1 ++ wsX7_firstFaultOfHelpers_r2) ++ wsX70 ++ wsX50 ++ wsX10)
def wsX7_firstFault_r1 : List Cond := [Cond.fieldLink RX7 9 "CappedRow$Text" "cells" "I", Cond.fieldLink RX7 22 "CappedRow$Text" "helpers" "LCappedRow$Helpers;", Cond.fieldLink RX7 26 "CappedRow$Helpers" "count" "I", Cond.methodLink RX7 29 yX7_codeOf, Cond.static yX7_codeOf, Cond.initialized RX7, Cond.code yX7_codeOf cX7_codeOf 4 (some .int), Cond.methodLink RX7 53 yX5_code, Cond.instanceMethod yX5_code, Cond.selects RX5 yX5_code yX5_code, Cond.initialized RX5, Cond.code yX5_code cX5_code 2 (some .int), Cond.fieldLink RX5 19 "CappedRow$Sheet" "length" "I", Cond.fieldLink RX5 22 "CappedRow$Sheet" "cells" "[I", Cond.methodLink RX7 33 yX7_readDigits, Cond.instanceMethod yX7_readDigits, Cond.selects RX7 yX7_readDigits yX7_readDigits, Cond.code yX7_readDigits cX7_readDigits 6 none, Cond.fieldLink RX7 15 "CappedRow$Text" "digit" "[I", Cond.methodLink RX7 41 yX7_isDigit, Cond.static yX7_isDigit, Cond.code yX7_isDigit cX7_isDigit 1 (some .boolean), Cond.methodLink RX7 37 yX7_firstFaultOfHelpers, Cond.instanceMethod yX7_firstFaultOfHelpers]
def wsX7_firstFault_r2 : List Cond := [Cond.selects RX7 yX7_firstFaultOfHelpers yX7_firstFaultOfHelpers, Cond.code yX7_firstFaultOfHelpers cX7_firstFaultOfHelpers 8 (some .int), Cond.methodLink RX7 45 yX7_kindOf, Cond.static yX7_kindOf, Cond.code yX7_kindOf cX7_kindOf 1 (some .int), Cond.methodLink RX7 49 yX1_join, Cond.instanceMethod yX1_join, Cond.selects RX1 yX1_join yX1_join, Cond.initialized RX1, Cond.code yX1_join cX1_join 3 none, Cond.fieldLink RX1 9 "CappedRow$Helpers" "count" "I", Cond.fieldLink RX1 15 "CappedRow$Helpers" "kind" "[I", Cond.fieldLink RX1 19 "CappedRow$Helpers" "pace" "[I"]
def wsX7_firstFault : List Cond := .code yX7_firstFault cX7_firstFault 4 (some .int) :: ((wsX7_firstFault_r1 ++ wsX7_firstFault_r2) ++ wsX70 ++ wsX10 ++ wsX50)
def wsX8_init_r1 : List Cond := [Cond.methodLink RX8 3 objectInit, Cond.instanceMethod objectInit, Cond.code objectInit ⟨#[0xb1]⟩ 1 none, Cond.classLink RX8 11 RX5, Cond.fieldLink RX8 13 "CappedRow" "sheets" "[LCappedRow$Sheet;", Cond.classLink RX8 17 RX7, Cond.instantiable RX7 3, Cond.initialized RX7, Cond.fieldLink RX8 20 "CappedRow" "text" "LCappedRow$Text;", Cond.classLink RX8 24 RX1, Cond.instantiable RX1 3, Cond.initialized RX1, Cond.fieldLink RX8 27 "CappedRow" "helpers" "LCappedRow$Helpers;", Cond.fieldLink RX8 31 "CappedRow" "guessed" "LCappedRow$Helpers;", Cond.classLink RX8 34 RX2, Cond.instantiable RX2 2, Cond.initialized RX2, Cond.fieldLink RX8 37 "CappedRow" "log" "LCappedRow$Log;", Cond.classLink RX8 41 RX0, Cond.instantiable RX0 4, Cond.initialized RX0, Cond.fieldLink RX8 44 "CappedRow" "told" "LCappedRow$Act;", Cond.classLink RX8 48 RX3, Cond.instantiable RX3 3]
def wsX8_init_r2 : List Cond := [Cond.initialized RX3, Cond.fieldLink RX8 51 "CappedRow" "now" "LCappedRow$Numbers;", Cond.fieldLink RX8 55 "CappedRow" "base" "LCappedRow$Numbers;", Cond.fieldLink RX8 58 "CappedRow" "trial" "LCappedRow$Numbers;", Cond.classLink RX8 61 RX6, Cond.instantiable RX6 2, Cond.initialized RX6, Cond.fieldLink RX8 64 "CappedRow" "spans" "LCappedRow$Spans;", Cond.classLink RX8 68 RX4, Cond.instantiable RX4 3, Cond.initialized RX4, Cond.fieldLink RX8 71 "CappedRow" "readings" "LCappedRow$Readings;", Cond.fieldLink RX8 75 "CappedRow" "traced" "I", Cond.fieldLink RX8 79 "CappedRow" "lastFault" "I", Cond.instantiable RX5 4, Cond.initialized RX5, Cond.instanceMethod yX7_init, Cond.code yX7_init cX7_init 1 none, Cond.methodLink RX7 3 objectInit, Cond.fieldLink RX7 9 "CappedRow$Text" "cells" "I", Cond.arrayClass .int, Cond.fieldLink RX7 15 "CappedRow$Text" "digit" "[I", Cond.classLink RX7 19 RX1, Cond.fieldLink RX7 22 "CappedRow$Text" "helpers" "LCappedRow$Helpers;"]
def wsX8_init_r3 : List Cond := [Cond.instanceMethod yX1_init, Cond.code yX1_init cX1_init 1 none, Cond.methodLink RX1 3 objectInit, Cond.fieldLink RX1 9 "CappedRow$Helpers" "count" "I", Cond.fieldLink RX1 15 "CappedRow$Helpers" "kind" "[I", Cond.fieldLink RX1 19 "CappedRow$Helpers" "pace" "[I", Cond.methodLink RX8 36 yX2_init, Cond.instanceMethod yX2_init, Cond.code yX2_init cX2_init 2 none, Cond.methodLink RX2 3 objectInit, Cond.fieldLink RX2 9 "CappedRow$Log" "count" "I", Cond.classLink RX2 15 RX0, Cond.fieldLink RX2 17 "CappedRow$Log" "acts" "[LCappedRow$Act;", Cond.instanceMethod yX0_init, Cond.code yX0_init cX0_init 1 none, Cond.methodLink RX0 3 objectInit, Cond.fieldLink RX0 9 "CappedRow$Act" "sort" "I", Cond.fieldLink RX0 15 "CappedRow$Act" "from" "I", Cond.fieldLink RX0 18 "CappedRow$Act" "to" "I", Cond.fieldLink RX0 21 "CappedRow$Act" "v" "J", Cond.instanceMethod yX3_init, Cond.code yX3_init cX3_init 1 none, Cond.methodLink RX3 3 objectInit, Cond.fieldLink RX3 9 "CappedRow$Numbers" "count" "I"]
def wsX8_init_r4 : List Cond := [Cond.arrayClass .long, Cond.fieldLink RX3 15 "CappedRow$Numbers" "number" "[J", Cond.fieldLink RX3 19 "CappedRow$Numbers" "historic" "[J", Cond.methodLink RX8 63 yX6_init, Cond.instanceMethod yX6_init, Cond.code yX6_init cX6_init 1 none, Cond.methodLink RX6 3 objectInit, Cond.fieldLink RX6 9 "CappedRow$Spans" "first" "[I", Cond.fieldLink RX6 15 "CappedRow$Spans" "last" "[I", Cond.methodLink RX6 18 yJ7_fill_53178, Cond.static yJ7_fill_53178, Cond.initialized RJ7, Cond.code yJ7_fill_53178 cJ7_fill_53178 4 none, Cond.instanceMethod yX4_init, Cond.code yX4_init cX4_init 1 none, Cond.methodLink RX4 3 objectInit, Cond.fieldLink RX4 9 "CappedRow$Readings" "count" "I", Cond.fieldLink RX4 15 "CappedRow$Readings" "cell" "[I", Cond.fieldLink RX4 19 "CappedRow$Readings" "value" "[J", Cond.instanceMethod yX5_init, Cond.code yX5_init cX5_init 1 none, Cond.methodLink RX5 3 objectInit, Cond.fieldLink RX5 9 "CappedRow$Sheet" "hasRow" "Z", Cond.fieldLink RX5 15 "CappedRow$Sheet" "lane" "I"]
def wsX8_init_r5 : List Cond := [Cond.fieldLink RX5 19 "CappedRow$Sheet" "length" "I", Cond.fieldLink RX5 22 "CappedRow$Sheet" "cells" "[I"]
def wsX8_init : List Cond := .code yX8_init cX8_init 2 none :: ((wsX8_init_r1 ++ (wsX8_init_r2 ++ (wsX8_init_r3 ++ (wsX8_init_r4 ++ wsX8_init_r5)))) ++ wsX80 ++ wsX70 ++ wsX10 ++ wsX20 ++ wsX00 ++ wsX30 ++ wsX60 ++ wsX40 ++ wsX50)
def wsX8_isSheet : List Cond := .code yX8_isSheet cX8_isSheet 1 (some .boolean) :: ([])
def wsX8_isLane : List Cond := .code yX8_isLane cX8_isLane 1 (some .boolean) :: ([])
def wsX8_failed : List Cond := .code yX8_failed cX8_failed 2 (some .int) :: ([.fieldLink RX8 79 "CappedRow" "lastFault" "I"] ++ wsX80)
def wsX8_beginAgain : List Cond := .code yX8_beginAgain cX8_beginAgain 1 none :: ([.fieldLink RX8 37 "CappedRow" "log" "LCappedRow$Log;", .fieldLink RX8 135 "CappedRow$Log" "count" "I", .fieldLink RX8 51 "CappedRow" "now" "LCappedRow$Numbers;", .fieldLink RX8 55 "CappedRow" "base" "LCappedRow$Numbers;", .methodLink RX8 136 yX3_forgetWhatWas, .instanceMethod yX3_forgetWhatWas, .selects RX3 yX3_forgetWhatWas yX3_forgetWhatWas, .initialized RX3, .code yX3_forgetWhatWas cX3_forgetWhatWas 1 none, .fieldLink RX3 15 "CappedRow$Numbers" "number" "[J", .fieldLink RX3 19 "CappedRow$Numbers" "historic" "[J", .methodLink RX3 22 arraycopyName, .native arraycopyName, .static arraycopyName, .initialized "java/lang/System", .methodLink RX8 139 yX3_becomeLike, .instanceMethod yX3_becomeLike, .selects RX3 yX3_becomeLike yX3_becomeLike, .code yX3_becomeLike cX3_becomeLike 2 none, .fieldLink RX3 9 "CappedRow$Numbers" "count" "I", .methodLink RX3 28 yX3_forgetWhatWas] ++ wsX80 ++ wsX20 ++ wsX30)
def wsX8_takeText_r1 : List Cond := [Cond.fieldLink RX8 51 "CappedRow" "now" "LCappedRow$Numbers;", Cond.fieldLink RX8 20 "CappedRow" "text" "LCappedRow$Text;", Cond.fieldLink RX8 111 "CappedRow$Text" "cells" "I", Cond.fieldLink RX8 108 "CappedRow$Numbers" "count" "I", Cond.fieldLink RX8 114 "CappedRow$Numbers" "number" "[J", Cond.fieldLink RX8 118 "CappedRow$Text" "digit" "[I", Cond.fieldLink RX8 27 "CappedRow" "helpers" "LCappedRow$Helpers;", Cond.fieldLink RX8 122 "CappedRow$Text" "helpers" "LCappedRow$Helpers;", Cond.fieldLink RX8 64 "CappedRow" "spans" "LCappedRow$Spans;", Cond.fieldLink RX8 71 "CappedRow" "readings" "LCappedRow$Readings;", Cond.fieldLink RX8 131 "CappedRow$Readings" "count" "I", Cond.methodLink RX8 123 yX1_becomeLike, Cond.instanceMethod yX1_becomeLike, Cond.selects RX1 yX1_becomeLike yX1_becomeLike, Cond.initialized RX1, Cond.code yX1_becomeLike cX1_becomeLike 2 none, Cond.fieldLink RX1 9 "CappedRow$Helpers" "count" "I", Cond.fieldLink RX1 15 "CappedRow$Helpers" "kind" "[I", Cond.methodLink RX1 22 arraycopyName, Cond.native arraycopyName, Cond.static arraycopyName, Cond.initialized "java/lang/System", Cond.fieldLink RX1 19 "CappedRow$Helpers" "pace" "[I", Cond.methodLink RX8 127 yX6_halve]
def wsX8_takeText_r2 : List Cond := [Cond.instanceMethod yX6_halve, Cond.selects RX6 yX6_halve yX6_halve, Cond.initialized RX6, Cond.code yX6_halve cX6_halve 6 none, Cond.fieldLink RX6 15 "CappedRow$Spans" "last" "[I", Cond.fieldLink RX6 9 "CappedRow$Spans" "first" "[I", Cond.methodLink RX8 132 yX8_beginAgain, Cond.instanceMethod yX8_beginAgain, Cond.selects RX8 yX8_beginAgain yX8_beginAgain, Cond.initialized RX8, Cond.code yX8_beginAgain cX8_beginAgain 1 none, Cond.fieldLink RX8 37 "CappedRow" "log" "LCappedRow$Log;", Cond.fieldLink RX8 135 "CappedRow$Log" "count" "I", Cond.fieldLink RX8 55 "CappedRow" "base" "LCappedRow$Numbers;", Cond.methodLink RX8 136 yX3_forgetWhatWas, Cond.instanceMethod yX3_forgetWhatWas, Cond.selects RX3 yX3_forgetWhatWas yX3_forgetWhatWas, Cond.initialized RX3, Cond.code yX3_forgetWhatWas cX3_forgetWhatWas 1 none, Cond.fieldLink RX3 15 "CappedRow$Numbers" "number" "[J", Cond.fieldLink RX3 19 "CappedRow$Numbers" "historic" "[J", Cond.methodLink RX3 22 arraycopyName, Cond.methodLink RX8 139 yX3_becomeLike, Cond.instanceMethod yX3_becomeLike]
def wsX8_takeText_r3 : List Cond := [Cond.selects RX3 yX3_becomeLike yX3_becomeLike, Cond.code yX3_becomeLike cX3_becomeLike 2 none, Cond.fieldLink RX3 9 "CappedRow$Numbers" "count" "I", Cond.methodLink RX3 28 yX3_forgetWhatWas]
def wsX8_takeText : List Cond := .code yX8_takeText cX8_takeText 2 none :: ((wsX8_takeText_r1 ++ (wsX8_takeText_r2 ++ wsX8_takeText_r3)) ++ wsX80 ++ wsX70 ++ wsX30 ++ wsX40 ++ wsX10 ++ wsX60 ++ wsX20)
def wsX8_row_r1 : List Cond := [Cond.fieldLink RX8 79 "CappedRow" "lastFault" "I", Cond.fieldLink RX8 13 "CappedRow" "sheets" "[LCappedRow$Sheet;", Cond.fieldLink RX8 20 "CappedRow" "text" "LCappedRow$Text;", Cond.fieldLink RX8 51 "CappedRow" "now" "LCappedRow$Numbers;", Cond.fieldLink RX8 108 "CappedRow$Numbers" "count" "I", Cond.methodLink RX8 83 yX8_isSheet, Cond.static yX8_isSheet, Cond.initialized RX8, Cond.code yX8_isSheet cX8_isSheet 1 (some .boolean), Cond.methodLink RX8 87 yX8_isLane, Cond.static yX8_isLane, Cond.code yX8_isLane cX8_isLane 1 (some .boolean), Cond.methodLink RX8 90 yX5_faultTakenAs, Cond.instanceMethod yX5_faultTakenAs, Cond.selects RX5 yX5_faultTakenAs yX5_faultTakenAs, Cond.initialized RX5, Cond.code yX5_faultTakenAs cX5_faultTakenAs 2 (some .int), Cond.fieldLink RX5 9 "CappedRow$Sheet" "hasRow" "Z", Cond.fieldLink RX5 15 "CappedRow$Sheet" "lane" "I", Cond.methodLink RX8 94 yX8_failed, Cond.instanceMethod yX8_failed, Cond.selects RX8 yX8_failed yX8_failed, Cond.code yX8_failed cX8_failed 2 (some .int), Cond.methodLink RX8 97 yX5_hasCells]
def wsX8_row_r2 : List Cond := [Cond.instanceMethod yX5_hasCells, Cond.selects RX5 yX5_hasCells yX5_hasCells, Cond.code yX5_hasCells cX5_hasCells 3 (some .boolean), Cond.fieldLink RX5 19 "CappedRow$Sheet" "length" "I", Cond.methodLink RX8 101 yX7_firstFault, Cond.instanceMethod yX7_firstFault, Cond.selects RX7 yX7_firstFault yX7_firstFault, Cond.initialized RX7, Cond.code yX7_firstFault cX7_firstFault 4 (some .int), Cond.fieldLink RX7 9 "CappedRow$Text" "cells" "I", Cond.fieldLink RX7 22 "CappedRow$Text" "helpers" "LCappedRow$Helpers;", Cond.fieldLink RX7 26 "CappedRow$Helpers" "count" "I", Cond.methodLink RX7 29 yX7_codeOf, Cond.static yX7_codeOf, Cond.code yX7_codeOf cX7_codeOf 4 (some .int), Cond.methodLink RX7 53 yX5_code, Cond.instanceMethod yX5_code, Cond.selects RX5 yX5_code yX5_code, Cond.code yX5_code cX5_code 2 (some .int), Cond.fieldLink RX5 22 "CappedRow$Sheet" "cells" "[I", Cond.methodLink RX7 33 yX7_readDigits, Cond.instanceMethod yX7_readDigits, Cond.selects RX7 yX7_readDigits yX7_readDigits, Cond.code yX7_readDigits cX7_readDigits 6 none]
def wsX8_row_r3 : List Cond := [Cond.fieldLink RX7 15 "CappedRow$Text" "digit" "[I", Cond.methodLink RX7 41 yX7_isDigit, Cond.static yX7_isDigit, Cond.code yX7_isDigit cX7_isDigit 1 (some .boolean), Cond.methodLink RX7 37 yX7_firstFaultOfHelpers, Cond.instanceMethod yX7_firstFaultOfHelpers, Cond.selects RX7 yX7_firstFaultOfHelpers yX7_firstFaultOfHelpers, Cond.code yX7_firstFaultOfHelpers cX7_firstFaultOfHelpers 8 (some .int), Cond.methodLink RX7 45 yX7_kindOf, Cond.static yX7_kindOf, Cond.code yX7_kindOf cX7_kindOf 1 (some .int), Cond.methodLink RX7 49 yX1_join, Cond.instanceMethod yX1_join, Cond.selects RX1 yX1_join yX1_join, Cond.initialized RX1, Cond.code yX1_join cX1_join 3 none, Cond.fieldLink RX1 9 "CappedRow$Helpers" "count" "I", Cond.fieldLink RX1 15 "CappedRow$Helpers" "kind" "[I", Cond.fieldLink RX1 19 "CappedRow$Helpers" "pace" "[I", Cond.methodLink RX8 105 yX8_takeText, Cond.instanceMethod yX8_takeText, Cond.selects RX8 yX8_takeText yX8_takeText, Cond.code yX8_takeText cX8_takeText 2 none, Cond.fieldLink RX8 111 "CappedRow$Text" "cells" "I"]
def wsX8_row_r4 : List Cond := [Cond.fieldLink RX8 114 "CappedRow$Numbers" "number" "[J", Cond.fieldLink RX8 118 "CappedRow$Text" "digit" "[I", Cond.fieldLink RX8 27 "CappedRow" "helpers" "LCappedRow$Helpers;", Cond.fieldLink RX8 122 "CappedRow$Text" "helpers" "LCappedRow$Helpers;", Cond.fieldLink RX8 64 "CappedRow" "spans" "LCappedRow$Spans;", Cond.fieldLink RX8 71 "CappedRow" "readings" "LCappedRow$Readings;", Cond.fieldLink RX8 131 "CappedRow$Readings" "count" "I", Cond.methodLink RX8 123 yX1_becomeLike, Cond.instanceMethod yX1_becomeLike, Cond.selects RX1 yX1_becomeLike yX1_becomeLike, Cond.code yX1_becomeLike cX1_becomeLike 2 none, Cond.methodLink RX1 22 arraycopyName, Cond.native arraycopyName, Cond.static arraycopyName, Cond.initialized "java/lang/System", Cond.methodLink RX8 127 yX6_halve, Cond.instanceMethod yX6_halve, Cond.selects RX6 yX6_halve yX6_halve, Cond.initialized RX6, Cond.code yX6_halve cX6_halve 6 none, Cond.fieldLink RX6 15 "CappedRow$Spans" "last" "[I", Cond.fieldLink RX6 9 "CappedRow$Spans" "first" "[I", Cond.methodLink RX8 132 yX8_beginAgain, Cond.instanceMethod yX8_beginAgain]
def wsX8_row_r5 : List Cond := [Cond.selects RX8 yX8_beginAgain yX8_beginAgain, Cond.code yX8_beginAgain cX8_beginAgain 1 none, Cond.fieldLink RX8 37 "CappedRow" "log" "LCappedRow$Log;", Cond.fieldLink RX8 135 "CappedRow$Log" "count" "I", Cond.fieldLink RX8 55 "CappedRow" "base" "LCappedRow$Numbers;", Cond.methodLink RX8 136 yX3_forgetWhatWas, Cond.instanceMethod yX3_forgetWhatWas, Cond.selects RX3 yX3_forgetWhatWas yX3_forgetWhatWas, Cond.initialized RX3, Cond.code yX3_forgetWhatWas cX3_forgetWhatWas 1 none, Cond.fieldLink RX3 15 "CappedRow$Numbers" "number" "[J", Cond.fieldLink RX3 19 "CappedRow$Numbers" "historic" "[J", Cond.methodLink RX3 22 arraycopyName, Cond.methodLink RX8 139 yX3_becomeLike, Cond.instanceMethod yX3_becomeLike, Cond.selects RX3 yX3_becomeLike yX3_becomeLike, Cond.code yX3_becomeLike cX3_becomeLike 2 none, Cond.fieldLink RX3 9 "CappedRow$Numbers" "count" "I", Cond.methodLink RX3 28 yX3_forgetWhatWas]
def wsX8_row : List Cond := .code yX8_row cX8_row 8 (some .int) :: ((wsX8_row_r1 ++ (wsX8_row_r2 ++ (wsX8_row_r3 ++ (wsX8_row_r4 ++ wsX8_row_r5)))) ++ wsX80 ++ wsX30 ++ wsX50 ++ wsX70 ++ wsX10 ++ wsX40 ++ wsX60 ++ wsX20)
def wsX8_ofHelper_r1 : List Cond := [Cond.fieldLink RX8 27 "CappedRow" "helpers" "LCappedRow$Helpers;", Cond.fieldLink RX8 146 "CappedRow$Helpers" "kind" "[I", Cond.fieldLink RX8 149 "CappedRow$Helpers" "pace" "[I", Cond.fieldLink RX8 37 "CappedRow" "log" "LCappedRow$Log;", Cond.methodLink RX8 142 yX1_has, Cond.instanceMethod yX1_has, Cond.selects RX1 yX1_has yX1_has, Cond.initialized RX1, Cond.code yX1_has cX1_has 3 (some .boolean), Cond.fieldLink RX1 9 "CappedRow$Helpers" "count" "I", Cond.methodLink RX8 152 yX1_strength, Cond.instanceMethod yX1_strength, Cond.selects RX1 yX1_strength yX1_strength, Cond.code yX1_strength cX1_strength 4 (some .int), Cond.fieldLink RX1 19 "CappedRow$Helpers" "pace" "[I", Cond.fieldLink RX1 15 "CappedRow$Helpers" "kind" "[I", Cond.methodLink RX1 28 yX1_has, Cond.methodLink RX8 156 yX2_actsOf, Cond.instanceMethod yX2_actsOf, Cond.selects RX2 yX2_actsOf yX2_actsOf, Cond.initialized RX2, Cond.code yX2_actsOf cX2_actsOf 4 (some .int), Cond.fieldLink RX2 9 "CappedRow$Log" "count" "I", Cond.fieldLink RX2 17 "CappedRow$Log" "acts" "[LCappedRow$Act;"]
def wsX8_ofHelper_r2 : List Cond := [Cond.fieldLink RX2 26 "CappedRow$Act" "v" "J", Cond.methodLink RX2 22 yX0_isHelp, Cond.instanceMethod yX0_isHelp, Cond.selects RX0 yX0_isHelp yX0_isHelp, Cond.initialized RX0, Cond.code yX0_isHelp cX0_isHelp 1 (some .boolean), Cond.fieldLink RX0 9 "CappedRow$Act" "sort" "I"]
def wsX8_ofHelper : List Cond := .code yX8_ofHelper cX8_ofHelper 3 (some .int) :: ((wsX8_ofHelper_r1 ++ wsX8_ofHelper_r2) ++ wsX80 ++ wsX10 ++ wsX20 ++ wsX00)
def wsX8_at : List Cond := .code yX8_at cX8_at 3 (some .long) :: ([.fieldLink RX8 51 "CappedRow" "now" "LCappedRow$Numbers;", .constantLong RX8 161 (-9223372036854775808), .fieldLink RX8 114 "CappedRow$Numbers" "number" "[J", .fieldLink RX8 163 "CappedRow$Numbers" "historic" "[J", .methodLink RX8 159 yX3_has, .instanceMethod yX3_has, .selects RX3 yX3_has yX3_has, .initialized RX3, .code yX3_has cX3_has 2 (some .boolean), .fieldLink RX3 9 "CappedRow$Numbers" "count" "I"] ++ wsX80 ++ wsX30)
def wsX8_refusedRun : List Cond := .code yX8_refusedRun cX8_refusedRun 3 (some .int) :: ([.fieldLink RX8 51 "CappedRow" "now" "LCappedRow$Numbers;", .methodLink RX8 159 yX3_has, .instanceMethod yX3_has, .selects RX3 yX3_has yX3_has, .initialized RX3, .code yX3_has cX3_has 2 (some .boolean), .fieldLink RX3 9 "CappedRow$Numbers" "count" "I"] ++ wsX80 ++ wsX30)
def wsX8_refusedAim : List Cond := .code yX8_refusedAim cX8_refusedAim 6 (some .int) :: ([.constantLong RX8 335 (-1000000000000), .constantLong RX8 337 (1000000000000), .methodLink RX8 174 yX8_refusedRun, .instanceMethod yX8_refusedRun, .selects RX8 yX8_refusedRun yX8_refusedRun, .initialized RX8, .code yX8_refusedRun cX8_refusedRun 3 (some .int), .fieldLink RX8 51 "CappedRow" "now" "LCappedRow$Numbers;", .methodLink RX8 159 yX3_has, .instanceMethod yX3_has, .selects RX3 yX3_has yX3_has, .initialized RX3, .code yX3_has cX3_has 2 (some .boolean), .fieldLink RX3 9 "CappedRow$Numbers" "count" "I"] ++ wsX80 ++ wsX30)
def wsX8_act_r1 : List Cond := [Cond.fieldLink RX8 37 "CappedRow" "log" "LCappedRow$Log;", Cond.fieldLink RX8 51 "CappedRow" "now" "LCappedRow$Numbers;", Cond.fieldLink RX8 27 "CappedRow" "helpers" "LCappedRow$Helpers;", Cond.methodLink RX8 199 yX2_next, Cond.instanceMethod yX2_next, Cond.selects RX2 yX2_next yX2_next, Cond.initialized RX2, Cond.code yX2_next cX2_next 1 (some (.object "CappedRow$Act")), Cond.fieldLink RX2 9 "CappedRow$Log" "count" "I", Cond.fieldLink RX2 17 "CappedRow$Log" "acts" "[LCappedRow$Act;", Cond.methodLink RX8 203 yX0_become, Cond.instanceMethod yX0_become, Cond.selects RX0 yX0_become yX0_become, Cond.initialized RX0, Cond.code yX0_become cX0_become 6 none, Cond.fieldLink RX0 9 "CappedRow$Act" "sort" "I", Cond.fieldLink RX0 15 "CappedRow$Act" "from" "I", Cond.fieldLink RX0 18 "CappedRow$Act" "to" "I", Cond.fieldLink RX0 21 "CappedRow$Act" "v" "J", Cond.methodLink RX8 207 yX3_suffer, Cond.instanceMethod yX3_suffer, Cond.selects RX3 yX3_suffer yX3_suffer, Cond.initialized RX3, Cond.code yX3_suffer cX3_suffer 9 (some .int)]
def wsX8_act_r2 : List Cond := [Cond.fieldLink RX3 31 "CappedRow$Act" "from" "I", Cond.fieldLink RX3 40 "CappedRow$Act" "to" "I", Cond.fieldLink RX3 15 "CappedRow$Numbers" "number" "[J", Cond.fieldLink RX3 47 "CappedRow$Act" "sort" "I", Cond.fieldLink RX3 19 "CappedRow$Numbers" "historic" "[J", Cond.methodLink RX3 54 Lib.MathLoose.max_long.x, Cond.static Lib.MathLoose.max_long.x, Cond.initialized "java/lang/Math", Cond.code Lib.MathLoose.max_long.x Lib.MathLoose.max_long.code 4 (some .long), Cond.methodLink RX3 36 yX3_has, Cond.instanceMethod yX3_has, Cond.selects RX3 yX3_has yX3_has, Cond.code yX3_has cX3_has 2 (some .boolean), Cond.fieldLink RX3 9 "CappedRow$Numbers" "count" "I", Cond.methodLink RX3 43 yX0_amount, Cond.instanceMethod yX0_amount, Cond.selects RX0 yX0_amount yX0_amount, Cond.code yX0_amount cX0_amount 2 (some .long), Cond.methodLink RX0 25 yX1_strength, Cond.instanceMethod yX1_strength, Cond.selects RX1 yX1_strength yX1_strength, Cond.initialized RX1, Cond.code yX1_strength cX1_strength 4 (some .int), Cond.fieldLink RX1 19 "CappedRow$Helpers" "pace" "[I"]
def wsX8_act_r3 : List Cond := [Cond.fieldLink RX1 15 "CappedRow$Helpers" "kind" "[I", Cond.methodLink RX1 28 yX1_has, Cond.instanceMethod yX1_has, Cond.selects RX1 yX1_has yX1_has, Cond.code yX1_has cX1_has 3 (some .boolean), Cond.fieldLink RX1 9 "CappedRow$Helpers" "count" "I", Cond.methodLink RX3 50 yX3_changed, Cond.static yX3_changed, Cond.code yX3_changed cX3_changed 5 (some .long), Cond.methodLink RX3 60 Lib.MathLoose.min_long.x, Cond.static Lib.MathLoose.min_long.x, Cond.code Lib.MathLoose.min_long.x Lib.MathLoose.min_long.code 4 (some .long)]
def wsX8_act : List Cond := .code yX8_act cX8_act 7 (some .int) :: ((wsX8_act_r1 ++ (wsX8_act_r2 ++ wsX8_act_r3)) ++ wsX80 ++ wsX20 ++ wsX00 ++ wsX30 ++ wsX10)
def wsX8_add_r1 : List Cond := [Cond.fieldLink RX8 37 "CappedRow" "log" "LCappedRow$Log;", Cond.fieldLink RX8 135 "CappedRow$Log" "count" "I", Cond.methodLink RX8 166 yX8_refusedAim, Cond.instanceMethod yX8_refusedAim, Cond.selects RX8 yX8_refusedAim yX8_refusedAim, Cond.initialized RX8, Cond.code yX8_refusedAim cX8_refusedAim 6 (some .int), Cond.constantLong RX8 335 (-1000000000000), Cond.constantLong RX8 337 (1000000000000), Cond.methodLink RX8 174 yX8_refusedRun, Cond.instanceMethod yX8_refusedRun, Cond.selects RX8 yX8_refusedRun yX8_refusedRun, Cond.code yX8_refusedRun cX8_refusedRun 3 (some .int), Cond.fieldLink RX8 51 "CappedRow" "now" "LCappedRow$Numbers;", Cond.methodLink RX8 159 yX3_has, Cond.instanceMethod yX3_has, Cond.selects RX3 yX3_has yX3_has, Cond.initialized RX3, Cond.code yX3_has cX3_has 2 (some .boolean), Cond.fieldLink RX3 9 "CappedRow$Numbers" "count" "I", Cond.methodLink RX8 170 yX8_act, Cond.instanceMethod yX8_act, Cond.selects RX8 yX8_act yX8_act, Cond.code yX8_act cX8_act 7 (some .int)]
def wsX8_add_r2 : List Cond := [Cond.fieldLink RX8 27 "CappedRow" "helpers" "LCappedRow$Helpers;", Cond.methodLink RX8 199 yX2_next, Cond.instanceMethod yX2_next, Cond.selects RX2 yX2_next yX2_next, Cond.initialized RX2, Cond.code yX2_next cX2_next 1 (some (.object "CappedRow$Act")), Cond.fieldLink RX2 9 "CappedRow$Log" "count" "I", Cond.fieldLink RX2 17 "CappedRow$Log" "acts" "[LCappedRow$Act;", Cond.methodLink RX8 203 yX0_become, Cond.instanceMethod yX0_become, Cond.selects RX0 yX0_become yX0_become, Cond.initialized RX0, Cond.code yX0_become cX0_become 6 none, Cond.fieldLink RX0 9 "CappedRow$Act" "sort" "I", Cond.fieldLink RX0 15 "CappedRow$Act" "from" "I", Cond.fieldLink RX0 18 "CappedRow$Act" "to" "I", Cond.fieldLink RX0 21 "CappedRow$Act" "v" "J", Cond.methodLink RX8 207 yX3_suffer, Cond.instanceMethod yX3_suffer, Cond.selects RX3 yX3_suffer yX3_suffer, Cond.code yX3_suffer cX3_suffer 9 (some .int), Cond.fieldLink RX3 31 "CappedRow$Act" "from" "I", Cond.fieldLink RX3 40 "CappedRow$Act" "to" "I", Cond.fieldLink RX3 15 "CappedRow$Numbers" "number" "[J"]
def wsX8_add_r3 : List Cond := [Cond.fieldLink RX3 47 "CappedRow$Act" "sort" "I", Cond.fieldLink RX3 19 "CappedRow$Numbers" "historic" "[J", Cond.methodLink RX3 54 Lib.MathLoose.max_long.x, Cond.static Lib.MathLoose.max_long.x, Cond.initialized "java/lang/Math", Cond.code Lib.MathLoose.max_long.x Lib.MathLoose.max_long.code 4 (some .long), Cond.methodLink RX3 36 yX3_has, Cond.methodLink RX3 43 yX0_amount, Cond.instanceMethod yX0_amount, Cond.selects RX0 yX0_amount yX0_amount, Cond.code yX0_amount cX0_amount 2 (some .long), Cond.methodLink RX0 25 yX1_strength, Cond.instanceMethod yX1_strength, Cond.selects RX1 yX1_strength yX1_strength, Cond.initialized RX1, Cond.code yX1_strength cX1_strength 4 (some .int), Cond.fieldLink RX1 19 "CappedRow$Helpers" "pace" "[I", Cond.fieldLink RX1 15 "CappedRow$Helpers" "kind" "[I", Cond.methodLink RX1 28 yX1_has, Cond.instanceMethod yX1_has, Cond.selects RX1 yX1_has yX1_has, Cond.code yX1_has cX1_has 3 (some .boolean), Cond.fieldLink RX1 9 "CappedRow$Helpers" "count" "I", Cond.methodLink RX3 50 yX3_changed]
def wsX8_add_r4 : List Cond := [Cond.static yX3_changed, Cond.code yX3_changed cX3_changed 5 (some .long), Cond.methodLink RX3 60 Lib.MathLoose.min_long.x, Cond.static Lib.MathLoose.min_long.x, Cond.code Lib.MathLoose.min_long.x Lib.MathLoose.min_long.code 4 (some .long)]
def wsX8_add : List Cond := .code yX8_add cX8_add 7 (some .int) :: ((wsX8_add_r1 ++ (wsX8_add_r2 ++ (wsX8_add_r3 ++ wsX8_add_r4))) ++ wsX80 ++ wsX20 ++ wsX30 ++ wsX00 ++ wsX10)
def wsX8_cap_r1 : List Cond := [Cond.methodLink RX8 166 yX8_refusedAim, Cond.instanceMethod yX8_refusedAim, Cond.selects RX8 yX8_refusedAim yX8_refusedAim, Cond.initialized RX8, Cond.code yX8_refusedAim cX8_refusedAim 6 (some .int), Cond.constantLong RX8 335 (-1000000000000), Cond.constantLong RX8 337 (1000000000000), Cond.methodLink RX8 174 yX8_refusedRun, Cond.instanceMethod yX8_refusedRun, Cond.selects RX8 yX8_refusedRun yX8_refusedRun, Cond.code yX8_refusedRun cX8_refusedRun 3 (some .int), Cond.fieldLink RX8 51 "CappedRow" "now" "LCappedRow$Numbers;", Cond.methodLink RX8 159 yX3_has, Cond.instanceMethod yX3_has, Cond.selects RX3 yX3_has yX3_has, Cond.initialized RX3, Cond.code yX3_has cX3_has 2 (some .boolean), Cond.fieldLink RX3 9 "CappedRow$Numbers" "count" "I", Cond.methodLink RX8 170 yX8_act, Cond.instanceMethod yX8_act, Cond.selects RX8 yX8_act yX8_act, Cond.code yX8_act cX8_act 7 (some .int), Cond.fieldLink RX8 37 "CappedRow" "log" "LCappedRow$Log;", Cond.fieldLink RX8 27 "CappedRow" "helpers" "LCappedRow$Helpers;"]
def wsX8_cap_r2 : List Cond := [Cond.methodLink RX8 199 yX2_next, Cond.instanceMethod yX2_next, Cond.selects RX2 yX2_next yX2_next, Cond.initialized RX2, Cond.code yX2_next cX2_next 1 (some (.object "CappedRow$Act")), Cond.fieldLink RX2 9 "CappedRow$Log" "count" "I", Cond.fieldLink RX2 17 "CappedRow$Log" "acts" "[LCappedRow$Act;", Cond.methodLink RX8 203 yX0_become, Cond.instanceMethod yX0_become, Cond.selects RX0 yX0_become yX0_become, Cond.initialized RX0, Cond.code yX0_become cX0_become 6 none, Cond.fieldLink RX0 9 "CappedRow$Act" "sort" "I", Cond.fieldLink RX0 15 "CappedRow$Act" "from" "I", Cond.fieldLink RX0 18 "CappedRow$Act" "to" "I", Cond.fieldLink RX0 21 "CappedRow$Act" "v" "J", Cond.methodLink RX8 207 yX3_suffer, Cond.instanceMethod yX3_suffer, Cond.selects RX3 yX3_suffer yX3_suffer, Cond.code yX3_suffer cX3_suffer 9 (some .int), Cond.fieldLink RX3 31 "CappedRow$Act" "from" "I", Cond.fieldLink RX3 40 "CappedRow$Act" "to" "I", Cond.fieldLink RX3 15 "CappedRow$Numbers" "number" "[J", Cond.fieldLink RX3 47 "CappedRow$Act" "sort" "I"]
def wsX8_cap_r3 : List Cond := [Cond.fieldLink RX3 19 "CappedRow$Numbers" "historic" "[J", Cond.methodLink RX3 54 Lib.MathLoose.max_long.x, Cond.static Lib.MathLoose.max_long.x, Cond.initialized "java/lang/Math", Cond.code Lib.MathLoose.max_long.x Lib.MathLoose.max_long.code 4 (some .long), Cond.methodLink RX3 36 yX3_has, Cond.methodLink RX3 43 yX0_amount, Cond.instanceMethod yX0_amount, Cond.selects RX0 yX0_amount yX0_amount, Cond.code yX0_amount cX0_amount 2 (some .long), Cond.methodLink RX0 25 yX1_strength, Cond.instanceMethod yX1_strength, Cond.selects RX1 yX1_strength yX1_strength, Cond.initialized RX1, Cond.code yX1_strength cX1_strength 4 (some .int), Cond.fieldLink RX1 19 "CappedRow$Helpers" "pace" "[I", Cond.fieldLink RX1 15 "CappedRow$Helpers" "kind" "[I", Cond.methodLink RX1 28 yX1_has, Cond.instanceMethod yX1_has, Cond.selects RX1 yX1_has yX1_has, Cond.code yX1_has cX1_has 3 (some .boolean), Cond.fieldLink RX1 9 "CappedRow$Helpers" "count" "I", Cond.methodLink RX3 50 yX3_changed, Cond.static yX3_changed]
def wsX8_cap_r4 : List Cond := [Cond.code yX3_changed cX3_changed 5 (some .long), Cond.methodLink RX3 60 Lib.MathLoose.min_long.x, Cond.static Lib.MathLoose.min_long.x, Cond.code Lib.MathLoose.min_long.x Lib.MathLoose.min_long.code 4 (some .long)]
def wsX8_cap : List Cond := .code yX8_cap cX8_cap 6 (some .int) :: ((wsX8_cap_r1 ++ (wsX8_cap_r2 ++ (wsX8_cap_r3 ++ wsX8_cap_r4))) ++ wsX80 ++ wsX30 ++ wsX20 ++ wsX00 ++ wsX10)
def wsX8_floor_r1 : List Cond := [Cond.methodLink RX8 166 yX8_refusedAim, Cond.instanceMethod yX8_refusedAim, Cond.selects RX8 yX8_refusedAim yX8_refusedAim, Cond.initialized RX8, Cond.code yX8_refusedAim cX8_refusedAim 6 (some .int), Cond.constantLong RX8 335 (-1000000000000), Cond.constantLong RX8 337 (1000000000000), Cond.methodLink RX8 174 yX8_refusedRun, Cond.instanceMethod yX8_refusedRun, Cond.selects RX8 yX8_refusedRun yX8_refusedRun, Cond.code yX8_refusedRun cX8_refusedRun 3 (some .int), Cond.fieldLink RX8 51 "CappedRow" "now" "LCappedRow$Numbers;", Cond.methodLink RX8 159 yX3_has, Cond.instanceMethod yX3_has, Cond.selects RX3 yX3_has yX3_has, Cond.initialized RX3, Cond.code yX3_has cX3_has 2 (some .boolean), Cond.fieldLink RX3 9 "CappedRow$Numbers" "count" "I", Cond.methodLink RX8 170 yX8_act, Cond.instanceMethod yX8_act, Cond.selects RX8 yX8_act yX8_act, Cond.code yX8_act cX8_act 7 (some .int), Cond.fieldLink RX8 37 "CappedRow" "log" "LCappedRow$Log;", Cond.fieldLink RX8 27 "CappedRow" "helpers" "LCappedRow$Helpers;"]
def wsX8_floor_r2 : List Cond := [Cond.methodLink RX8 199 yX2_next, Cond.instanceMethod yX2_next, Cond.selects RX2 yX2_next yX2_next, Cond.initialized RX2, Cond.code yX2_next cX2_next 1 (some (.object "CappedRow$Act")), Cond.fieldLink RX2 9 "CappedRow$Log" "count" "I", Cond.fieldLink RX2 17 "CappedRow$Log" "acts" "[LCappedRow$Act;", Cond.methodLink RX8 203 yX0_become, Cond.instanceMethod yX0_become, Cond.selects RX0 yX0_become yX0_become, Cond.initialized RX0, Cond.code yX0_become cX0_become 6 none, Cond.fieldLink RX0 9 "CappedRow$Act" "sort" "I", Cond.fieldLink RX0 15 "CappedRow$Act" "from" "I", Cond.fieldLink RX0 18 "CappedRow$Act" "to" "I", Cond.fieldLink RX0 21 "CappedRow$Act" "v" "J", Cond.methodLink RX8 207 yX3_suffer, Cond.instanceMethod yX3_suffer, Cond.selects RX3 yX3_suffer yX3_suffer, Cond.code yX3_suffer cX3_suffer 9 (some .int), Cond.fieldLink RX3 31 "CappedRow$Act" "from" "I", Cond.fieldLink RX3 40 "CappedRow$Act" "to" "I", Cond.fieldLink RX3 15 "CappedRow$Numbers" "number" "[J", Cond.fieldLink RX3 47 "CappedRow$Act" "sort" "I"]
def wsX8_floor_r3 : List Cond := [Cond.fieldLink RX3 19 "CappedRow$Numbers" "historic" "[J", Cond.methodLink RX3 54 Lib.MathLoose.max_long.x, Cond.static Lib.MathLoose.max_long.x, Cond.initialized "java/lang/Math", Cond.code Lib.MathLoose.max_long.x Lib.MathLoose.max_long.code 4 (some .long), Cond.methodLink RX3 36 yX3_has, Cond.methodLink RX3 43 yX0_amount, Cond.instanceMethod yX0_amount, Cond.selects RX0 yX0_amount yX0_amount, Cond.code yX0_amount cX0_amount 2 (some .long), Cond.methodLink RX0 25 yX1_strength, Cond.instanceMethod yX1_strength, Cond.selects RX1 yX1_strength yX1_strength, Cond.initialized RX1, Cond.code yX1_strength cX1_strength 4 (some .int), Cond.fieldLink RX1 19 "CappedRow$Helpers" "pace" "[I", Cond.fieldLink RX1 15 "CappedRow$Helpers" "kind" "[I", Cond.methodLink RX1 28 yX1_has, Cond.instanceMethod yX1_has, Cond.selects RX1 yX1_has yX1_has, Cond.code yX1_has cX1_has 3 (some .boolean), Cond.fieldLink RX1 9 "CappedRow$Helpers" "count" "I", Cond.methodLink RX3 50 yX3_changed, Cond.static yX3_changed]
def wsX8_floor_r4 : List Cond := [Cond.code yX3_changed cX3_changed 5 (some .long), Cond.methodLink RX3 60 Lib.MathLoose.min_long.x, Cond.static Lib.MathLoose.min_long.x, Cond.code Lib.MathLoose.min_long.x Lib.MathLoose.min_long.code 4 (some .long)]
def wsX8_floor : List Cond := .code yX8_floor cX8_floor 6 (some .int) :: ((wsX8_floor_r1 ++ (wsX8_floor_r2 ++ (wsX8_floor_r3 ++ wsX8_floor_r4))) ++ wsX80 ++ wsX30 ++ wsX20 ++ wsX00 ++ wsX10)
def wsX8_help_r1 : List Cond := [Cond.fieldLink RX8 27 "CappedRow" "helpers" "LCappedRow$Helpers;", Cond.methodLink RX8 142 yX1_has, Cond.instanceMethod yX1_has, Cond.selects RX1 yX1_has yX1_has, Cond.initialized RX1, Cond.code yX1_has cX1_has 3 (some .boolean), Cond.fieldLink RX1 9 "CappedRow$Helpers" "count" "I", Cond.methodLink RX8 174 yX8_refusedRun, Cond.instanceMethod yX8_refusedRun, Cond.selects RX8 yX8_refusedRun yX8_refusedRun, Cond.initialized RX8, Cond.code yX8_refusedRun cX8_refusedRun 3 (some .int), Cond.fieldLink RX8 51 "CappedRow" "now" "LCappedRow$Numbers;", Cond.methodLink RX8 159 yX3_has, Cond.instanceMethod yX3_has, Cond.selects RX3 yX3_has yX3_has, Cond.initialized RX3, Cond.code yX3_has cX3_has 2 (some .boolean), Cond.fieldLink RX3 9 "CappedRow$Numbers" "count" "I", Cond.methodLink RX8 170 yX8_act, Cond.instanceMethod yX8_act, Cond.selects RX8 yX8_act yX8_act, Cond.code yX8_act cX8_act 7 (some .int), Cond.fieldLink RX8 37 "CappedRow" "log" "LCappedRow$Log;"]
def wsX8_help_r2 : List Cond := [Cond.methodLink RX8 199 yX2_next, Cond.instanceMethod yX2_next, Cond.selects RX2 yX2_next yX2_next, Cond.initialized RX2, Cond.code yX2_next cX2_next 1 (some (.object "CappedRow$Act")), Cond.fieldLink RX2 9 "CappedRow$Log" "count" "I", Cond.fieldLink RX2 17 "CappedRow$Log" "acts" "[LCappedRow$Act;", Cond.methodLink RX8 203 yX0_become, Cond.instanceMethod yX0_become, Cond.selects RX0 yX0_become yX0_become, Cond.initialized RX0, Cond.code yX0_become cX0_become 6 none, Cond.fieldLink RX0 9 "CappedRow$Act" "sort" "I", Cond.fieldLink RX0 15 "CappedRow$Act" "from" "I", Cond.fieldLink RX0 18 "CappedRow$Act" "to" "I", Cond.fieldLink RX0 21 "CappedRow$Act" "v" "J", Cond.methodLink RX8 207 yX3_suffer, Cond.instanceMethod yX3_suffer, Cond.selects RX3 yX3_suffer yX3_suffer, Cond.code yX3_suffer cX3_suffer 9 (some .int), Cond.fieldLink RX3 31 "CappedRow$Act" "from" "I", Cond.fieldLink RX3 40 "CappedRow$Act" "to" "I", Cond.fieldLink RX3 15 "CappedRow$Numbers" "number" "[J", Cond.fieldLink RX3 47 "CappedRow$Act" "sort" "I"]
def wsX8_help_r3 : List Cond := [Cond.fieldLink RX3 19 "CappedRow$Numbers" "historic" "[J", Cond.methodLink RX3 54 Lib.MathLoose.max_long.x, Cond.static Lib.MathLoose.max_long.x, Cond.initialized "java/lang/Math", Cond.code Lib.MathLoose.max_long.x Lib.MathLoose.max_long.code 4 (some .long), Cond.methodLink RX3 36 yX3_has, Cond.methodLink RX3 43 yX0_amount, Cond.instanceMethod yX0_amount, Cond.selects RX0 yX0_amount yX0_amount, Cond.code yX0_amount cX0_amount 2 (some .long), Cond.methodLink RX0 25 yX1_strength, Cond.instanceMethod yX1_strength, Cond.selects RX1 yX1_strength yX1_strength, Cond.code yX1_strength cX1_strength 4 (some .int), Cond.fieldLink RX1 19 "CappedRow$Helpers" "pace" "[I", Cond.fieldLink RX1 15 "CappedRow$Helpers" "kind" "[I", Cond.methodLink RX1 28 yX1_has, Cond.methodLink RX3 50 yX3_changed, Cond.static yX3_changed, Cond.code yX3_changed cX3_changed 5 (some .long), Cond.methodLink RX3 60 Lib.MathLoose.min_long.x, Cond.static Lib.MathLoose.min_long.x, Cond.code Lib.MathLoose.min_long.x Lib.MathLoose.min_long.code 4 (some .long), Cond.methodLink RX8 152 yX1_strength]
def wsX8_help : List Cond := .code yX8_help cX8_help 7 (some .int) :: ((wsX8_help_r1 ++ (wsX8_help_r2 ++ wsX8_help_r3)) ++ wsX80 ++ wsX10 ++ wsX30 ++ wsX20 ++ wsX00)
def wsX8_fresh_r1 : List Cond := [Cond.fieldLink RX8 51 "CappedRow" "now" "LCappedRow$Numbers;", Cond.fieldLink RX8 37 "CappedRow" "log" "LCappedRow$Log;", Cond.fieldLink RX8 135 "CappedRow$Log" "count" "I", Cond.methodLink RX8 178 yX3_areThere, Cond.instanceMethod yX3_areThere, Cond.selects RX3 yX3_areThere yX3_areThere, Cond.initialized RX3, Cond.code yX3_areThere cX3_areThere 1 (some .boolean), Cond.fieldLink RX3 9 "CappedRow$Numbers" "count" "I", Cond.methodLink RX8 132 yX8_beginAgain, Cond.instanceMethod yX8_beginAgain, Cond.selects RX8 yX8_beginAgain yX8_beginAgain, Cond.initialized RX8, Cond.code yX8_beginAgain cX8_beginAgain 1 none, Cond.fieldLink RX8 55 "CappedRow" "base" "LCappedRow$Numbers;", Cond.methodLink RX8 136 yX3_forgetWhatWas, Cond.instanceMethod yX3_forgetWhatWas, Cond.selects RX3 yX3_forgetWhatWas yX3_forgetWhatWas, Cond.code yX3_forgetWhatWas cX3_forgetWhatWas 1 none, Cond.fieldLink RX3 15 "CappedRow$Numbers" "number" "[J", Cond.fieldLink RX3 19 "CappedRow$Numbers" "historic" "[J", Cond.methodLink RX3 22 arraycopyName, Cond.native arraycopyName, Cond.static arraycopyName]
def wsX8_fresh_r2 : List Cond := [Cond.initialized "java/lang/System", Cond.methodLink RX8 139 yX3_becomeLike, Cond.instanceMethod yX3_becomeLike, Cond.selects RX3 yX3_becomeLike yX3_becomeLike, Cond.code yX3_becomeLike cX3_becomeLike 2 none, Cond.methodLink RX3 28 yX3_forgetWhatWas]
def wsX8_fresh : List Cond := .code yX8_fresh cX8_fresh 2 (some .int) :: ((wsX8_fresh_r1 ++ wsX8_fresh_r2) ++ wsX80 ++ wsX20 ++ wsX30)
def wsX8_isOfDay : List Cond := .code yX8_isOfDay cX8_isOfDay 1 (some .boolean) :: ([])
def wsX8_lost : List Cond := .code yX8_lost cX8_lost 2 (some .long) :: ([.fieldLink RX8 79 "CappedRow" "lastFault" "I", .constantLong RX8 161 (-9223372036854775808)] ++ wsX80)
def wsX8_sortsAreKnown : List Cond := .code yX8_sortsAreKnown cX8_sortsAreKnown 5 (some .boolean) :: ([.methodLink RX8 211 yX5_code, .instanceMethod yX5_code, .selects RX5 yX5_code yX5_code, .initialized RX5, .code yX5_code cX5_code 2 (some .int), .fieldLink RX5 19 "CappedRow$Sheet" "length" "I", .fieldLink RX5 22 "CappedRow$Sheet" "cells" "[I"] ++ wsX50)
def wsX8_canBe_r1 : List Cond := [Cond.fieldLink RX8 218 "CappedRow$Act" "from" "I", Cond.fieldLink RX8 221 "CappedRow$Act" "to" "I", Cond.fieldLink RX8 27 "CappedRow" "helpers" "LCappedRow$Helpers;", Cond.fieldLink RX8 227 "CappedRow$Act" "v" "J", Cond.methodLink RX8 174 yX8_refusedRun, Cond.instanceMethod yX8_refusedRun, Cond.selects RX8 yX8_refusedRun yX8_refusedRun, Cond.initialized RX8, Cond.code yX8_refusedRun cX8_refusedRun 3 (some .int), Cond.fieldLink RX8 51 "CappedRow" "now" "LCappedRow$Numbers;", Cond.methodLink RX8 159 yX3_has, Cond.instanceMethod yX3_has, Cond.selects RX3 yX3_has yX3_has, Cond.initialized RX3, Cond.code yX3_has cX3_has 2 (some .boolean), Cond.fieldLink RX3 9 "CappedRow$Numbers" "count" "I", Cond.methodLink RX8 224 yX0_isHelp, Cond.instanceMethod yX0_isHelp, Cond.selects RX0 yX0_isHelp yX0_isHelp, Cond.initialized RX0, Cond.code yX0_isHelp cX0_isHelp 1 (some .boolean), Cond.fieldLink RX0 9 "CappedRow$Act" "sort" "I", Cond.methodLink RX8 142 yX1_has, Cond.instanceMethod yX1_has]
def wsX8_canBe_r2 : List Cond := [Cond.selects RX1 yX1_has yX1_has, Cond.initialized RX1, Cond.code yX1_has cX1_has 3 (some .boolean), Cond.fieldLink RX1 9 "CappedRow$Helpers" "count" "I"]
def wsX8_canBe : List Cond := .code yX8_canBe cX8_canBe 2 (some .boolean) :: ((wsX8_canBe_r1 ++ wsX8_canBe_r2) ++ wsX00 ++ wsX80 ++ wsX30 ++ wsX10)
def wsX8_playDay_r1 : List Cond := [Cond.fieldLink RX8 58 "CappedRow" "trial" "LCappedRow$Numbers;", Cond.fieldLink RX8 51 "CappedRow" "now" "LCappedRow$Numbers;", Cond.fieldLink RX8 44 "CappedRow" "told" "LCappedRow$Act;", Cond.fieldLink RX8 27 "CappedRow" "helpers" "LCappedRow$Helpers;", Cond.methodLink RX8 139 yX3_becomeLike, Cond.instanceMethod yX3_becomeLike, Cond.selects RX3 yX3_becomeLike yX3_becomeLike, Cond.initialized RX3, Cond.code yX3_becomeLike cX3_becomeLike 2 none, Cond.fieldLink RX3 9 "CappedRow$Numbers" "count" "I", Cond.fieldLink RX3 15 "CappedRow$Numbers" "number" "[J", Cond.methodLink RX3 22 arraycopyName, Cond.native arraycopyName, Cond.static arraycopyName, Cond.initialized "java/lang/System", Cond.methodLink RX3 28 yX3_forgetWhatWas, Cond.instanceMethod yX3_forgetWhatWas, Cond.selects RX3 yX3_forgetWhatWas yX3_forgetWhatWas, Cond.code yX3_forgetWhatWas cX3_forgetWhatWas 1 none, Cond.fieldLink RX3 19 "CappedRow$Numbers" "historic" "[J", Cond.methodLink RX8 211 yX5_code, Cond.instanceMethod yX5_code, Cond.selects RX5 yX5_code yX5_code, Cond.initialized RX5]
def wsX8_playDay_r2 : List Cond := [Cond.code yX5_code cX5_code 2 (some .int), Cond.fieldLink RX5 19 "CappedRow$Sheet" "length" "I", Cond.fieldLink RX5 22 "CappedRow$Sheet" "cells" "[I", Cond.methodLink RX8 203 yX0_become, Cond.instanceMethod yX0_become, Cond.selects RX0 yX0_become yX0_become, Cond.initialized RX0, Cond.code yX0_become cX0_become 6 none, Cond.fieldLink RX0 9 "CappedRow$Act" "sort" "I", Cond.fieldLink RX0 15 "CappedRow$Act" "from" "I", Cond.fieldLink RX0 18 "CappedRow$Act" "to" "I", Cond.fieldLink RX0 21 "CappedRow$Act" "v" "J", Cond.methodLink RX8 214 yX8_canBe, Cond.instanceMethod yX8_canBe, Cond.selects RX8 yX8_canBe yX8_canBe, Cond.initialized RX8, Cond.code yX8_canBe cX8_canBe 2 (some .boolean), Cond.fieldLink RX8 218 "CappedRow$Act" "from" "I", Cond.fieldLink RX8 221 "CappedRow$Act" "to" "I", Cond.fieldLink RX8 227 "CappedRow$Act" "v" "J", Cond.methodLink RX8 174 yX8_refusedRun, Cond.instanceMethod yX8_refusedRun, Cond.selects RX8 yX8_refusedRun yX8_refusedRun, Cond.code yX8_refusedRun cX8_refusedRun 3 (some .int)]
def wsX8_playDay_r3 : List Cond := [Cond.methodLink RX8 159 yX3_has, Cond.instanceMethod yX3_has, Cond.selects RX3 yX3_has yX3_has, Cond.code yX3_has cX3_has 2 (some .boolean), Cond.methodLink RX8 224 yX0_isHelp, Cond.instanceMethod yX0_isHelp, Cond.selects RX0 yX0_isHelp yX0_isHelp, Cond.code yX0_isHelp cX0_isHelp 1 (some .boolean), Cond.methodLink RX8 142 yX1_has, Cond.instanceMethod yX1_has, Cond.selects RX1 yX1_has yX1_has, Cond.initialized RX1, Cond.code yX1_has cX1_has 3 (some .boolean), Cond.fieldLink RX1 9 "CappedRow$Helpers" "count" "I", Cond.methodLink RX8 207 yX3_suffer, Cond.instanceMethod yX3_suffer, Cond.selects RX3 yX3_suffer yX3_suffer, Cond.code yX3_suffer cX3_suffer 9 (some .int), Cond.fieldLink RX3 31 "CappedRow$Act" "from" "I", Cond.fieldLink RX3 40 "CappedRow$Act" "to" "I", Cond.fieldLink RX3 47 "CappedRow$Act" "sort" "I", Cond.methodLink RX3 54 Lib.MathLoose.max_long.x, Cond.static Lib.MathLoose.max_long.x, Cond.initialized "java/lang/Math"]
def wsX8_playDay_r4 : List Cond := [Cond.code Lib.MathLoose.max_long.x Lib.MathLoose.max_long.code 4 (some .long), Cond.methodLink RX3 36 yX3_has, Cond.methodLink RX3 43 yX0_amount, Cond.instanceMethod yX0_amount, Cond.selects RX0 yX0_amount yX0_amount, Cond.code yX0_amount cX0_amount 2 (some .long), Cond.methodLink RX0 25 yX1_strength, Cond.instanceMethod yX1_strength, Cond.selects RX1 yX1_strength yX1_strength, Cond.code yX1_strength cX1_strength 4 (some .int), Cond.fieldLink RX1 19 "CappedRow$Helpers" "pace" "[I", Cond.fieldLink RX1 15 "CappedRow$Helpers" "kind" "[I", Cond.methodLink RX1 28 yX1_has, Cond.methodLink RX3 50 yX3_changed, Cond.static yX3_changed, Cond.code yX3_changed cX3_changed 5 (some .long), Cond.methodLink RX3 60 Lib.MathLoose.min_long.x, Cond.static Lib.MathLoose.min_long.x, Cond.code Lib.MathLoose.min_long.x Lib.MathLoose.min_long.code 4 (some .long)]
def wsX8_playDay : List Cond := .code yX8_playDay cX8_playDay 6 (some .int) :: ((wsX8_playDay_r1 ++ (wsX8_playDay_r2 ++ (wsX8_playDay_r3 ++ wsX8_playDay_r4))) ++ wsX80 ++ wsX30 ++ wsX50 ++ wsX00 ++ wsX10)
def wsX8_sum : List Cond := .code yX8_sum cX8_sum 6 (some .long) :: ([])
def wsX8_greatest : List Cond := .code yX8_greatest cX8_greatest 6 (some .long) :: ([.methodLink RX8 339 Lib.MathLoose.max_long.x, .static Lib.MathLoose.max_long.x, .initialized "java/lang/Math", .code Lib.MathLoose.max_long.x Lib.MathLoose.max_long.code 4 (some .long)])
def wsX8_least : List Cond := .code yX8_least cX8_least 6 (some .long) :: ([.methodLink RX8 345 Lib.MathLoose.min_long.x, .static Lib.MathLoose.min_long.x, .initialized "java/lang/Math", .code Lib.MathLoose.min_long.x Lib.MathLoose.min_long.code 4 (some .long)])
def wsX8_ofTrial_r1 : List Cond := [Cond.fieldLink RX8 58 "CappedRow" "trial" "LCappedRow$Numbers;", Cond.fieldLink RX8 108 "CappedRow$Numbers" "count" "I", Cond.fieldLink RX8 114 "CappedRow$Numbers" "number" "[J", Cond.fieldLink RX8 163 "CappedRow$Numbers" "historic" "[J", Cond.constantLong RX8 161 (-9223372036854775808), Cond.methodLink RX8 231 yX8_sum, Cond.static yX8_sum, Cond.initialized RX8, Cond.code yX8_sum cX8_sum 6 (some .long), Cond.methodLink RX8 235 yX8_greatest, Cond.static yX8_greatest, Cond.code yX8_greatest cX8_greatest 6 (some .long), Cond.methodLink RX8 339 Lib.MathLoose.max_long.x, Cond.static Lib.MathLoose.max_long.x, Cond.initialized "java/lang/Math", Cond.code Lib.MathLoose.max_long.x Lib.MathLoose.max_long.code 4 (some .long), Cond.methodLink RX8 238 yX8_least, Cond.static yX8_least, Cond.code yX8_least cX8_least 6 (some .long), Cond.methodLink RX8 345 Lib.MathLoose.min_long.x, Cond.static Lib.MathLoose.min_long.x, Cond.code Lib.MathLoose.min_long.x Lib.MathLoose.min_long.code 4 (some .long), Cond.methodLink RX8 159 yX3_has, Cond.instanceMethod yX3_has]
def wsX8_ofTrial_r2 : List Cond := [Cond.selects RX3 yX3_has yX3_has, Cond.initialized RX3, Cond.code yX3_has cX3_has 2 (some .boolean), Cond.fieldLink RX3 9 "CappedRow$Numbers" "count" "I"]
def wsX8_ofTrial : List Cond := .code yX8_ofTrial cX8_ofTrial 4 (some .long) :: ((wsX8_ofTrial_r1 ++ wsX8_ofTrial_r2) ++ wsX80 ++ wsX30)
def wsX8_day_r1 : List Cond := [Cond.fieldLink RX8 79 "CappedRow" "lastFault" "I", Cond.constantLong RX8 161 (-9223372036854775808), Cond.fieldLink RX8 13 "CappedRow" "sheets" "[LCappedRow$Sheet;", Cond.fieldLink RX8 51 "CappedRow" "now" "LCappedRow$Numbers;", Cond.methodLink RX8 83 yX8_isSheet, Cond.static yX8_isSheet, Cond.initialized RX8, Cond.code yX8_isSheet cX8_isSheet 1 (some .boolean), Cond.methodLink RX8 87 yX8_isLane, Cond.static yX8_isLane, Cond.code yX8_isLane cX8_isLane 1 (some .boolean), Cond.methodLink RX8 182 yX8_isOfDay, Cond.static yX8_isOfDay, Cond.code yX8_isOfDay cX8_isOfDay 1 (some .boolean), Cond.methodLink RX8 90 yX5_faultTakenAs, Cond.instanceMethod yX5_faultTakenAs, Cond.selects RX5 yX5_faultTakenAs yX5_faultTakenAs, Cond.initialized RX5, Cond.code yX5_faultTakenAs cX5_faultTakenAs 2 (some .int), Cond.fieldLink RX5 9 "CappedRow$Sheet" "hasRow" "Z", Cond.fieldLink RX5 15 "CappedRow$Sheet" "lane" "I", Cond.methodLink RX8 185 yX8_lost, Cond.instanceMethod yX8_lost, Cond.selects RX8 yX8_lost yX8_lost]
def wsX8_day_r2 : List Cond := [Cond.code yX8_lost cX8_lost 2 (some .long), Cond.methodLink RX8 97 yX5_hasCells, Cond.instanceMethod yX5_hasCells, Cond.selects RX5 yX5_hasCells yX5_hasCells, Cond.code yX5_hasCells cX5_hasCells 3 (some .boolean), Cond.fieldLink RX5 19 "CappedRow$Sheet" "length" "I", Cond.methodLink RX8 178 yX3_areThere, Cond.instanceMethod yX3_areThere, Cond.selects RX3 yX3_areThere yX3_areThere, Cond.initialized RX3, Cond.code yX3_areThere cX3_areThere 1 (some .boolean), Cond.fieldLink RX3 9 "CappedRow$Numbers" "count" "I", Cond.methodLink RX8 189 yX8_sortsAreKnown, Cond.static yX8_sortsAreKnown, Cond.code yX8_sortsAreKnown cX8_sortsAreKnown 5 (some .boolean), Cond.methodLink RX8 211 yX5_code, Cond.instanceMethod yX5_code, Cond.selects RX5 yX5_code yX5_code, Cond.code yX5_code cX5_code 2 (some .int), Cond.fieldLink RX5 22 "CappedRow$Sheet" "cells" "[I", Cond.methodLink RX8 193 yX8_playDay, Cond.instanceMethod yX8_playDay, Cond.selects RX8 yX8_playDay yX8_playDay, Cond.code yX8_playDay cX8_playDay 6 (some .int)]
def wsX8_day_r3 : List Cond := [Cond.fieldLink RX8 58 "CappedRow" "trial" "LCappedRow$Numbers;", Cond.fieldLink RX8 44 "CappedRow" "told" "LCappedRow$Act;", Cond.fieldLink RX8 27 "CappedRow" "helpers" "LCappedRow$Helpers;", Cond.methodLink RX8 139 yX3_becomeLike, Cond.instanceMethod yX3_becomeLike, Cond.selects RX3 yX3_becomeLike yX3_becomeLike, Cond.code yX3_becomeLike cX3_becomeLike 2 none, Cond.fieldLink RX3 15 "CappedRow$Numbers" "number" "[J", Cond.methodLink RX3 22 arraycopyName, Cond.native arraycopyName, Cond.static arraycopyName, Cond.initialized "java/lang/System", Cond.methodLink RX3 28 yX3_forgetWhatWas, Cond.instanceMethod yX3_forgetWhatWas, Cond.selects RX3 yX3_forgetWhatWas yX3_forgetWhatWas, Cond.code yX3_forgetWhatWas cX3_forgetWhatWas 1 none, Cond.fieldLink RX3 19 "CappedRow$Numbers" "historic" "[J", Cond.methodLink RX8 203 yX0_become, Cond.instanceMethod yX0_become, Cond.selects RX0 yX0_become yX0_become, Cond.initialized RX0, Cond.code yX0_become cX0_become 6 none, Cond.fieldLink RX0 9 "CappedRow$Act" "sort" "I", Cond.fieldLink RX0 15 "CappedRow$Act" "from" "I"]
def wsX8_day_r4 : List Cond := [Cond.fieldLink RX0 18 "CappedRow$Act" "to" "I", Cond.fieldLink RX0 21 "CappedRow$Act" "v" "J", Cond.methodLink RX8 214 yX8_canBe, Cond.instanceMethod yX8_canBe, Cond.selects RX8 yX8_canBe yX8_canBe, Cond.code yX8_canBe cX8_canBe 2 (some .boolean), Cond.fieldLink RX8 218 "CappedRow$Act" "from" "I", Cond.fieldLink RX8 221 "CappedRow$Act" "to" "I", Cond.fieldLink RX8 227 "CappedRow$Act" "v" "J", Cond.methodLink RX8 174 yX8_refusedRun, Cond.instanceMethod yX8_refusedRun, Cond.selects RX8 yX8_refusedRun yX8_refusedRun, Cond.code yX8_refusedRun cX8_refusedRun 3 (some .int), Cond.methodLink RX8 159 yX3_has, Cond.instanceMethod yX3_has, Cond.selects RX3 yX3_has yX3_has, Cond.code yX3_has cX3_has 2 (some .boolean), Cond.methodLink RX8 224 yX0_isHelp, Cond.instanceMethod yX0_isHelp, Cond.selects RX0 yX0_isHelp yX0_isHelp, Cond.code yX0_isHelp cX0_isHelp 1 (some .boolean), Cond.methodLink RX8 142 yX1_has, Cond.instanceMethod yX1_has, Cond.selects RX1 yX1_has yX1_has]
def wsX8_day_r5 : List Cond := [Cond.initialized RX1, Cond.code yX1_has cX1_has 3 (some .boolean), Cond.fieldLink RX1 9 "CappedRow$Helpers" "count" "I", Cond.methodLink RX8 207 yX3_suffer, Cond.instanceMethod yX3_suffer, Cond.selects RX3 yX3_suffer yX3_suffer, Cond.code yX3_suffer cX3_suffer 9 (some .int), Cond.fieldLink RX3 31 "CappedRow$Act" "from" "I", Cond.fieldLink RX3 40 "CappedRow$Act" "to" "I", Cond.fieldLink RX3 47 "CappedRow$Act" "sort" "I", Cond.methodLink RX3 54 Lib.MathLoose.max_long.x, Cond.static Lib.MathLoose.max_long.x, Cond.initialized "java/lang/Math", Cond.code Lib.MathLoose.max_long.x Lib.MathLoose.max_long.code 4 (some .long), Cond.methodLink RX3 36 yX3_has, Cond.methodLink RX3 43 yX0_amount, Cond.instanceMethod yX0_amount, Cond.selects RX0 yX0_amount yX0_amount, Cond.code yX0_amount cX0_amount 2 (some .long), Cond.methodLink RX0 25 yX1_strength, Cond.instanceMethod yX1_strength, Cond.selects RX1 yX1_strength yX1_strength, Cond.code yX1_strength cX1_strength 4 (some .int), Cond.fieldLink RX1 19 "CappedRow$Helpers" "pace" "[I"]
def wsX8_day_r6 : List Cond := [Cond.fieldLink RX1 15 "CappedRow$Helpers" "kind" "[I", Cond.methodLink RX1 28 yX1_has, Cond.methodLink RX3 50 yX3_changed, Cond.static yX3_changed, Cond.code yX3_changed cX3_changed 5 (some .long), Cond.methodLink RX3 60 Lib.MathLoose.min_long.x, Cond.static Lib.MathLoose.min_long.x, Cond.code Lib.MathLoose.min_long.x Lib.MathLoose.min_long.code 4 (some .long), Cond.methodLink RX8 196 yX8_ofTrial, Cond.instanceMethod yX8_ofTrial, Cond.selects RX8 yX8_ofTrial yX8_ofTrial, Cond.code yX8_ofTrial cX8_ofTrial 4 (some .long), Cond.fieldLink RX8 108 "CappedRow$Numbers" "count" "I", Cond.fieldLink RX8 114 "CappedRow$Numbers" "number" "[J", Cond.fieldLink RX8 163 "CappedRow$Numbers" "historic" "[J", Cond.methodLink RX8 231 yX8_sum, Cond.static yX8_sum, Cond.code yX8_sum cX8_sum 6 (some .long), Cond.methodLink RX8 235 yX8_greatest, Cond.static yX8_greatest, Cond.code yX8_greatest cX8_greatest 6 (some .long), Cond.methodLink RX8 339 Lib.MathLoose.max_long.x, Cond.methodLink RX8 238 yX8_least, Cond.static yX8_least]
def wsX8_day_r7 : List Cond := [Cond.code yX8_least cX8_least 6 (some .long), Cond.methodLink RX8 345 Lib.MathLoose.min_long.x]
def wsX8_day : List Cond := .code yX8_day cX8_day 9 (some .long) :: ((wsX8_day_r1 ++ (wsX8_day_r2 ++ (wsX8_day_r3 ++ (wsX8_day_r4 ++ (wsX8_day_r5 ++ (wsX8_day_r6 ++ wsX8_day_r7)))))) ++ wsX80 ++ wsX50 ++ wsX30 ++ wsX00 ++ wsX10)
def wsX8_howManyFrom : List Cond := .code yX8_howManyFrom cX8_howManyFrom 7 (some .int) :: ([])
def wsX8_howManyGreatest : List Cond := .code yX8_howManyGreatest cX8_howManyGreatest 3 (some .int) :: ([.methodLink RX8 235 yX8_greatest, .static yX8_greatest, .initialized RX8, .code yX8_greatest cX8_greatest 6 (some .long), .methodLink RX8 339 Lib.MathLoose.max_long.x, .static Lib.MathLoose.max_long.x, .initialized "java/lang/Math", .code Lib.MathLoose.max_long.x Lib.MathLoose.max_long.code 4 (some .long), .methodLink RX8 279 yX8_howManyFrom, .static yX8_howManyFrom, .code yX8_howManyFrom cX8_howManyFrom 7 (some .int)])
def wsX8_second : List Cond := .code yX8_second cX8_second 8 (some .long) :: ([.constantLong RX8 161 (-9223372036854775808), .methodLink RX8 339 Lib.MathLoose.max_long.x, .static Lib.MathLoose.max_long.x, .initialized "java/lang/Math", .code Lib.MathLoose.max_long.x Lib.MathLoose.max_long.code 4 (some .long), .methodLink RX8 235 yX8_greatest, .static yX8_greatest, .initialized RX8, .code yX8_greatest cX8_greatest 6 (some .long)])
def wsX8_standsAhead : List Cond := .code yX8_standsAhead cX8_standsAhead 4 (some .boolean) :: ([])
def wsX8_howManyUnlike : List Cond := .code yX8_howManyUnlike cX8_howManyUnlike 5 (some .int) :: ([.methodLink RX8 348 yX8_standsAhead, .static yX8_standsAhead, .initialized RX8, .code yX8_standsAhead cX8_standsAhead 4 (some .boolean)])
def wsX8_ask_r1 : List Cond := [Cond.constantLong RX8 161 (-9223372036854775808), Cond.fieldLink RX8 51 "CappedRow" "now" "LCappedRow$Numbers;", Cond.fieldLink RX8 114 "CappedRow$Numbers" "number" "[J", Cond.fieldLink RX8 163 "CappedRow$Numbers" "historic" "[J", Cond.methodLink RX8 174 yX8_refusedRun, Cond.instanceMethod yX8_refusedRun, Cond.selects RX8 yX8_refusedRun yX8_refusedRun, Cond.initialized RX8, Cond.code yX8_refusedRun cX8_refusedRun 3 (some .int), Cond.methodLink RX8 159 yX3_has, Cond.instanceMethod yX3_has, Cond.selects RX3 yX3_has yX3_has, Cond.initialized RX3, Cond.code yX3_has cX3_has 2 (some .boolean), Cond.fieldLink RX3 9 "CappedRow$Numbers" "count" "I", Cond.methodLink RX8 231 yX8_sum, Cond.static yX8_sum, Cond.code yX8_sum cX8_sum 6 (some .long), Cond.methodLink RX8 235 yX8_greatest, Cond.static yX8_greatest, Cond.code yX8_greatest cX8_greatest 6 (some .long), Cond.methodLink RX8 339 Lib.MathLoose.max_long.x, Cond.static Lib.MathLoose.max_long.x, Cond.initialized "java/lang/Math"]
def wsX8_ask_r2 : List Cond := [Cond.code Lib.MathLoose.max_long.x Lib.MathLoose.max_long.code 4 (some .long), Cond.methodLink RX8 238 yX8_least, Cond.static yX8_least, Cond.code yX8_least cX8_least 6 (some .long), Cond.methodLink RX8 345 Lib.MathLoose.min_long.x, Cond.static Lib.MathLoose.min_long.x, Cond.code Lib.MathLoose.min_long.x Lib.MathLoose.min_long.code 4 (some .long), Cond.methodLink RX8 241 yX8_howManyGreatest, Cond.static yX8_howManyGreatest, Cond.code yX8_howManyGreatest cX8_howManyGreatest 3 (some .int), Cond.methodLink RX8 279 yX8_howManyFrom, Cond.static yX8_howManyFrom, Cond.code yX8_howManyFrom cX8_howManyFrom 7 (some .int), Cond.methodLink RX8 245 yX8_second, Cond.static yX8_second, Cond.code yX8_second cX8_second 8 (some .long), Cond.methodLink RX8 248 yX8_howManyUnlike, Cond.static yX8_howManyUnlike, Cond.code yX8_howManyUnlike cX8_howManyUnlike 5 (some .int), Cond.methodLink RX8 348 yX8_standsAhead, Cond.static yX8_standsAhead, Cond.code yX8_standsAhead cX8_standsAhead 4 (some .boolean)]
def wsX8_ask : List Cond := .code yX8_ask cX8_ask 4 (some .long) :: ((wsX8_ask_r1 ++ wsX8_ask_r2) ++ wsX80 ++ wsX30)
def wsX8_ofSpan_r1 : List Cond := [Cond.fieldLink RX8 64 "CappedRow" "spans" "LCappedRow$Spans;", Cond.constantLong RX8 161 (-9223372036854775808), Cond.fieldLink RX8 252 "CappedRow$Spans" "first" "[I", Cond.fieldLink RX8 255 "CappedRow$Spans" "last" "[I", Cond.fieldLink RX8 51 "CappedRow" "now" "LCappedRow$Numbers;", Cond.fieldLink RX8 114 "CappedRow$Numbers" "number" "[J", Cond.methodLink RX8 251 yX6_has, Cond.instanceMethod yX6_has, Cond.selects RX6 yX6_has yX6_has, Cond.initialized RX6, Cond.code yX6_has cX6_has 2 (some .boolean), Cond.fieldLink RX6 9 "CappedRow$Spans" "first" "[I", Cond.fieldLink RX6 15 "CappedRow$Spans" "last" "[I", Cond.methodLink RX8 235 yX8_greatest, Cond.static yX8_greatest, Cond.initialized RX8, Cond.code yX8_greatest cX8_greatest 6 (some .long), Cond.methodLink RX8 339 Lib.MathLoose.max_long.x, Cond.static Lib.MathLoose.max_long.x, Cond.initialized "java/lang/Math", Cond.code Lib.MathLoose.max_long.x Lib.MathLoose.max_long.code 4 (some .long), Cond.methodLink RX8 245 yX8_second, Cond.static yX8_second, Cond.code yX8_second cX8_second 8 (some .long)]
def wsX8_ofSpan_r2 : List Cond := [Cond.methodLink RX8 241 yX8_howManyGreatest, Cond.static yX8_howManyGreatest, Cond.code yX8_howManyGreatest cX8_howManyGreatest 3 (some .int), Cond.methodLink RX8 279 yX8_howManyFrom, Cond.static yX8_howManyFrom, Cond.code yX8_howManyFrom cX8_howManyFrom 7 (some .int), Cond.methodLink RX8 231 yX8_sum, Cond.static yX8_sum, Cond.code yX8_sum cX8_sum 6 (some .long), Cond.methodLink RX8 248 yX8_howManyUnlike, Cond.static yX8_howManyUnlike, Cond.code yX8_howManyUnlike cX8_howManyUnlike 5 (some .int), Cond.methodLink RX8 348 yX8_standsAhead, Cond.static yX8_standsAhead, Cond.code yX8_standsAhead cX8_standsAhead 4 (some .boolean)]
def wsX8_ofSpan : List Cond := .code yX8_ofSpan cX8_ofSpan 5 (some .long) :: ((wsX8_ofSpan_r1 ++ wsX8_ofSpan_r2) ++ wsX80 ++ wsX60 ++ wsX30)
def wsX8_mustOpen : List Cond := .code yX8_mustOpen cX8_mustOpen 10 (some .boolean) :: ([.fieldLink RX8 64 "CappedRow" "spans" "LCappedRow$Spans;", .fieldLink RX8 252 "CappedRow$Spans" "first" "[I", .fieldLink RX8 255 "CappedRow$Spans" "last" "[I", .fieldLink RX8 51 "CappedRow" "now" "LCappedRow$Numbers;", .fieldLink RX8 114 "CappedRow$Numbers" "number" "[J", .constantLong RX8 161 (-9223372036854775808), .methodLink RX8 235 yX8_greatest, .static yX8_greatest, .initialized RX8, .code yX8_greatest cX8_greatest 6 (some .long), .methodLink RX8 339 Lib.MathLoose.max_long.x, .static Lib.MathLoose.max_long.x, .initialized "java/lang/Math", .code Lib.MathLoose.max_long.x Lib.MathLoose.max_long.code 4 (some .long), .methodLink RX8 245 yX8_second, .static yX8_second, .code yX8_second cX8_second 8 (some .long)] ++ wsX80 ++ wsX60 ++ wsX30)
def wsJ13_bitCount_95d88 : List Cond := .code yJ13_bitCount_95d88 cJ13_bitCount_95d88 2 (some .int) :: ([.constantLong RJ13 314 (6148914691236517205), .constantLong RJ13 316 (3689348814741910323), .constantLong RJ13 318 (1085102592571150095)])
def wsX8_looks_r1 : List Cond := [Cond.constantLong RX8 258 (2), Cond.fieldLink RX8 64 "CappedRow" "spans" "LCappedRow$Spans;", Cond.methodLink RX8 166 yX8_refusedAim, Cond.instanceMethod yX8_refusedAim, Cond.selects RX8 yX8_refusedAim yX8_refusedAim, Cond.initialized RX8, Cond.code yX8_refusedAim cX8_refusedAim 6 (some .int), Cond.constantLong RX8 335 (-1000000000000), Cond.constantLong RX8 337 (1000000000000), Cond.methodLink RX8 174 yX8_refusedRun, Cond.instanceMethod yX8_refusedRun, Cond.selects RX8 yX8_refusedRun yX8_refusedRun, Cond.code yX8_refusedRun cX8_refusedRun 3 (some .int), Cond.fieldLink RX8 51 "CappedRow" "now" "LCappedRow$Numbers;", Cond.methodLink RX8 159 yX3_has, Cond.instanceMethod yX3_has, Cond.selects RX3 yX3_has yX3_has, Cond.initialized RX3, Cond.code yX3_has cX3_has 2 (some .boolean), Cond.fieldLink RX3 9 "CappedRow$Numbers" "count" "I", Cond.methodLink RX8 251 yX6_has, Cond.instanceMethod yX6_has, Cond.selects RX6 yX6_has yX6_has, Cond.initialized RX6]
def wsX8_looks_r2 : List Cond := [Cond.code yX6_has cX6_has 2 (some .boolean), Cond.fieldLink RX6 9 "CappedRow$Spans" "first" "[I", Cond.fieldLink RX6 15 "CappedRow$Spans" "last" "[I", Cond.methodLink RX8 260 yX8_mustOpen, Cond.instanceMethod yX8_mustOpen, Cond.selects RX8 yX8_mustOpen yX8_mustOpen, Cond.code yX8_mustOpen cX8_mustOpen 10 (some .boolean), Cond.fieldLink RX8 252 "CappedRow$Spans" "first" "[I", Cond.fieldLink RX8 255 "CappedRow$Spans" "last" "[I", Cond.fieldLink RX8 114 "CappedRow$Numbers" "number" "[J", Cond.constantLong RX8 161 (-9223372036854775808), Cond.methodLink RX8 235 yX8_greatest, Cond.static yX8_greatest, Cond.code yX8_greatest cX8_greatest 6 (some .long), Cond.methodLink RX8 339 Lib.MathLoose.max_long.x, Cond.static Lib.MathLoose.max_long.x, Cond.initialized "java/lang/Math", Cond.code Lib.MathLoose.max_long.x Lib.MathLoose.max_long.code 4 (some .long), Cond.methodLink RX8 245 yX8_second, Cond.static yX8_second, Cond.code yX8_second cX8_second 8 (some .long), Cond.methodLink RX8 264 yJ13_bitCount_95d88, Cond.static yJ13_bitCount_95d88, Cond.initialized RJ13]
def wsX8_looks_r3 : List Cond := [Cond.code yJ13_bitCount_95d88 cJ13_bitCount_95d88 2 (some .int), Cond.constantLong RJ13 314 (6148914691236517205), Cond.constantLong RJ13 316 (3689348814741910323), Cond.constantLong RJ13 318 (1085102592571150095)]
def wsX8_looks : List Cond := .code yX8_looks cX8_looks 10 (some .int) :: ((wsX8_looks_r1 ++ (wsX8_looks_r2 ++ wsX8_looks_r3)) ++ wsX80 ++ wsX30 ++ wsX60)
def wsX8_unlike_r1 : List Cond := [Cond.fieldLink RX8 51 "CappedRow" "now" "LCappedRow$Numbers;", Cond.fieldLink RX8 64 "CappedRow" "spans" "LCappedRow$Spans;", Cond.fieldLink RX8 114 "CappedRow$Numbers" "number" "[J", Cond.fieldLink RX8 252 "CappedRow$Spans" "first" "[I", Cond.fieldLink RX8 255 "CappedRow$Spans" "last" "[I", Cond.methodLink RX8 178 yX3_areThere, Cond.instanceMethod yX3_areThere, Cond.selects RX3 yX3_areThere yX3_areThere, Cond.initialized RX3, Cond.code yX3_areThere cX3_areThere 1 (some .boolean), Cond.fieldLink RX3 9 "CappedRow$Numbers" "count" "I", Cond.methodLink RX8 251 yX6_has, Cond.instanceMethod yX6_has, Cond.selects RX6 yX6_has yX6_has, Cond.initialized RX6, Cond.code yX6_has cX6_has 2 (some .boolean), Cond.fieldLink RX6 9 "CappedRow$Spans" "first" "[I", Cond.fieldLink RX6 15 "CappedRow$Spans" "last" "[I", Cond.methodLink RX8 248 yX8_howManyUnlike, Cond.static yX8_howManyUnlike, Cond.initialized RX8, Cond.code yX8_howManyUnlike cX8_howManyUnlike 5 (some .int), Cond.methodLink RX8 348 yX8_standsAhead, Cond.static yX8_standsAhead]
def wsX8_unlike_r2 : List Cond := [Cond.code yX8_standsAhead cX8_standsAhead 4 (some .boolean)]
def wsX8_unlike : List Cond := .code yX8_unlike cX8_unlike 3 (some .int) :: ((wsX8_unlike_r1 ++ wsX8_unlike_r2) ++ wsX80 ++ wsX30 ++ wsX60)
def wsX8_reading : List Cond := .code yX8_reading cX8_reading 4 (some .int) :: ([.fieldLink RX8 51 "CappedRow" "now" "LCappedRow$Numbers;", .constantLong RX8 267 (-1000000000000000), .constantLong RX8 269 (1000000000000000), .fieldLink RX8 71 "CappedRow" "readings" "LCappedRow$Readings;", .methodLink RX8 159 yX3_has, .instanceMethod yX3_has, .selects RX3 yX3_has yX3_has, .initialized RX3, .code yX3_has cX3_has 2 (some .boolean), .fieldLink RX3 9 "CappedRow$Numbers" "count" "I", .methodLink RX8 271 yX4_keep, .instanceMethod yX4_keep, .selects RX4 yX4_keep yX4_keep, .initialized RX4, .code yX4_keep cX4_keep 4 (some .int), .fieldLink RX4 9 "CappedRow$Readings" "count" "I", .fieldLink RX4 15 "CappedRow$Readings" "cell" "[I", .fieldLink RX4 19 "CappedRow$Readings" "value" "[J"] ++ wsX80 ++ wsX30 ++ wsX40)
def wsX8_back : List Cond := .code yX8_back cX8_back 2 (some .int) :: ([.fieldLink RX8 71 "CappedRow" "readings" "LCappedRow$Readings;", .fieldLink RX8 131 "CappedRow$Readings" "count" "I"] ++ wsX80 ++ wsX40)
def wsX8_fits_r1 : List Cond := [Cond.fieldLink RX8 31 "CappedRow" "guessed" "LCappedRow$Helpers;", Cond.fieldLink RX8 27 "CappedRow" "helpers" "LCappedRow$Helpers;", Cond.fieldLink RX8 146 "CappedRow$Helpers" "kind" "[I", Cond.fieldLink RX8 149 "CappedRow$Helpers" "pace" "[I", Cond.fieldLink RX8 58 "CappedRow" "trial" "LCappedRow$Numbers;", Cond.fieldLink RX8 55 "CappedRow" "base" "LCappedRow$Numbers;", Cond.fieldLink RX8 37 "CappedRow" "log" "LCappedRow$Log;", Cond.fieldLink RX8 135 "CappedRow$Log" "count" "I", Cond.fieldLink RX8 286 "CappedRow$Log" "acts" "[LCappedRow$Act;", Cond.fieldLink RX8 71 "CappedRow" "readings" "LCappedRow$Readings;", Cond.methodLink RX8 123 yX1_becomeLike, Cond.instanceMethod yX1_becomeLike, Cond.selects RX1 yX1_becomeLike yX1_becomeLike, Cond.initialized RX1, Cond.code yX1_becomeLike cX1_becomeLike 2 none, Cond.fieldLink RX1 9 "CappedRow$Helpers" "count" "I", Cond.fieldLink RX1 15 "CappedRow$Helpers" "kind" "[I", Cond.methodLink RX1 22 arraycopyName, Cond.native arraycopyName, Cond.static arraycopyName, Cond.initialized "java/lang/System", Cond.fieldLink RX1 19 "CappedRow$Helpers" "pace" "[I", Cond.methodLink RX8 139 yX3_becomeLike, Cond.instanceMethod yX3_becomeLike]
def wsX8_fits_r2 : List Cond := [Cond.selects RX3 yX3_becomeLike yX3_becomeLike, Cond.initialized RX3, Cond.code yX3_becomeLike cX3_becomeLike 2 none, Cond.fieldLink RX3 9 "CappedRow$Numbers" "count" "I", Cond.fieldLink RX3 15 "CappedRow$Numbers" "number" "[J", Cond.methodLink RX3 22 arraycopyName, Cond.methodLink RX3 28 yX3_forgetWhatWas, Cond.instanceMethod yX3_forgetWhatWas, Cond.selects RX3 yX3_forgetWhatWas yX3_forgetWhatWas, Cond.code yX3_forgetWhatWas cX3_forgetWhatWas 1 none, Cond.fieldLink RX3 19 "CappedRow$Numbers" "historic" "[J", Cond.methodLink RX8 207 yX3_suffer, Cond.instanceMethod yX3_suffer, Cond.selects RX3 yX3_suffer yX3_suffer, Cond.code yX3_suffer cX3_suffer 9 (some .int), Cond.fieldLink RX3 31 "CappedRow$Act" "from" "I", Cond.fieldLink RX3 40 "CappedRow$Act" "to" "I", Cond.fieldLink RX3 47 "CappedRow$Act" "sort" "I", Cond.methodLink RX3 54 Lib.MathLoose.max_long.x, Cond.static Lib.MathLoose.max_long.x, Cond.initialized "java/lang/Math", Cond.code Lib.MathLoose.max_long.x Lib.MathLoose.max_long.code 4 (some .long), Cond.methodLink RX3 36 yX3_has, Cond.instanceMethod yX3_has]
def wsX8_fits_r3 : List Cond := [Cond.selects RX3 yX3_has yX3_has, Cond.code yX3_has cX3_has 2 (some .boolean), Cond.methodLink RX3 43 yX0_amount, Cond.instanceMethod yX0_amount, Cond.selects RX0 yX0_amount yX0_amount, Cond.initialized RX0, Cond.code yX0_amount cX0_amount 2 (some .long), Cond.fieldLink RX0 9 "CappedRow$Act" "sort" "I", Cond.fieldLink RX0 21 "CappedRow$Act" "v" "J", Cond.methodLink RX0 25 yX1_strength, Cond.instanceMethod yX1_strength, Cond.selects RX1 yX1_strength yX1_strength, Cond.code yX1_strength cX1_strength 4 (some .int), Cond.methodLink RX1 28 yX1_has, Cond.instanceMethod yX1_has, Cond.selects RX1 yX1_has yX1_has, Cond.code yX1_has cX1_has 3 (some .boolean), Cond.methodLink RX3 50 yX3_changed, Cond.static yX3_changed, Cond.code yX3_changed cX3_changed 5 (some .long), Cond.methodLink RX3 60 Lib.MathLoose.min_long.x, Cond.static Lib.MathLoose.min_long.x, Cond.code Lib.MathLoose.min_long.x Lib.MathLoose.min_long.code 4 (some .long), Cond.methodLink RX8 290 yX4_areSoBy]
def wsX8_fits_r4 : List Cond := [Cond.instanceMethod yX4_areSoBy, Cond.selects RX4 yX4_areSoBy yX4_areSoBy, Cond.initialized RX4, Cond.code yX4_areSoBy cX4_areSoBy 3 (some .boolean), Cond.fieldLink RX4 9 "CappedRow$Readings" "count" "I", Cond.fieldLink RX4 15 "CappedRow$Readings" "cell" "[I", Cond.fieldLink RX4 29 "CappedRow$Numbers" "number" "[J", Cond.fieldLink RX4 19 "CappedRow$Readings" "value" "[J", Cond.methodLink RX4 23 yX3_has]
def wsX8_fits : List Cond := .code yX8_fits cX8_fits 5 (some .boolean) :: ((wsX8_fits_r1 ++ (wsX8_fits_r2 ++ (wsX8_fits_r3 ++ wsX8_fits_r4))) ++ wsX80 ++ wsX10 ++ wsX20 ++ wsX30 ++ wsX00 ++ wsX40)
def wsX8_kinds_r1 : List Cond := [Cond.fieldLink RX8 27 "CappedRow" "helpers" "LCappedRow$Helpers;", Cond.fieldLink RX8 149 "CappedRow$Helpers" "pace" "[I", Cond.methodLink RX8 142 yX1_has, Cond.instanceMethod yX1_has, Cond.selects RX1 yX1_has yX1_has, Cond.initialized RX1, Cond.code yX1_has cX1_has 3 (some .boolean), Cond.fieldLink RX1 9 "CappedRow$Helpers" "count" "I", Cond.methodLink RX8 275 yX8_fits, Cond.instanceMethod yX8_fits, Cond.selects RX8 yX8_fits yX8_fits, Cond.initialized RX8, Cond.code yX8_fits cX8_fits 5 (some .boolean), Cond.fieldLink RX8 31 "CappedRow" "guessed" "LCappedRow$Helpers;", Cond.fieldLink RX8 146 "CappedRow$Helpers" "kind" "[I", Cond.fieldLink RX8 58 "CappedRow" "trial" "LCappedRow$Numbers;", Cond.fieldLink RX8 55 "CappedRow" "base" "LCappedRow$Numbers;", Cond.fieldLink RX8 37 "CappedRow" "log" "LCappedRow$Log;", Cond.fieldLink RX8 135 "CappedRow$Log" "count" "I", Cond.fieldLink RX8 286 "CappedRow$Log" "acts" "[LCappedRow$Act;", Cond.fieldLink RX8 71 "CappedRow" "readings" "LCappedRow$Readings;", Cond.methodLink RX8 123 yX1_becomeLike, Cond.instanceMethod yX1_becomeLike, Cond.selects RX1 yX1_becomeLike yX1_becomeLike]
def wsX8_kinds_r2 : List Cond := [Cond.code yX1_becomeLike cX1_becomeLike 2 none, Cond.fieldLink RX1 15 "CappedRow$Helpers" "kind" "[I", Cond.methodLink RX1 22 arraycopyName, Cond.native arraycopyName, Cond.static arraycopyName, Cond.initialized "java/lang/System", Cond.fieldLink RX1 19 "CappedRow$Helpers" "pace" "[I", Cond.methodLink RX8 139 yX3_becomeLike, Cond.instanceMethod yX3_becomeLike, Cond.selects RX3 yX3_becomeLike yX3_becomeLike, Cond.initialized RX3, Cond.code yX3_becomeLike cX3_becomeLike 2 none, Cond.fieldLink RX3 9 "CappedRow$Numbers" "count" "I", Cond.fieldLink RX3 15 "CappedRow$Numbers" "number" "[J", Cond.methodLink RX3 22 arraycopyName, Cond.methodLink RX3 28 yX3_forgetWhatWas, Cond.instanceMethod yX3_forgetWhatWas, Cond.selects RX3 yX3_forgetWhatWas yX3_forgetWhatWas, Cond.code yX3_forgetWhatWas cX3_forgetWhatWas 1 none, Cond.fieldLink RX3 19 "CappedRow$Numbers" "historic" "[J", Cond.methodLink RX8 207 yX3_suffer, Cond.instanceMethod yX3_suffer, Cond.selects RX3 yX3_suffer yX3_suffer, Cond.code yX3_suffer cX3_suffer 9 (some .int)]
def wsX8_kinds_r3 : List Cond := [Cond.fieldLink RX3 31 "CappedRow$Act" "from" "I", Cond.fieldLink RX3 40 "CappedRow$Act" "to" "I", Cond.fieldLink RX3 47 "CappedRow$Act" "sort" "I", Cond.methodLink RX3 54 Lib.MathLoose.max_long.x, Cond.static Lib.MathLoose.max_long.x, Cond.initialized "java/lang/Math", Cond.code Lib.MathLoose.max_long.x Lib.MathLoose.max_long.code 4 (some .long), Cond.methodLink RX3 36 yX3_has, Cond.instanceMethod yX3_has, Cond.selects RX3 yX3_has yX3_has, Cond.code yX3_has cX3_has 2 (some .boolean), Cond.methodLink RX3 43 yX0_amount, Cond.instanceMethod yX0_amount, Cond.selects RX0 yX0_amount yX0_amount, Cond.initialized RX0, Cond.code yX0_amount cX0_amount 2 (some .long), Cond.fieldLink RX0 9 "CappedRow$Act" "sort" "I", Cond.fieldLink RX0 21 "CappedRow$Act" "v" "J", Cond.methodLink RX0 25 yX1_strength, Cond.instanceMethod yX1_strength, Cond.selects RX1 yX1_strength yX1_strength, Cond.code yX1_strength cX1_strength 4 (some .int), Cond.methodLink RX1 28 yX1_has, Cond.methodLink RX3 50 yX3_changed]
def wsX8_kinds_r4 : List Cond := [Cond.static yX3_changed, Cond.code yX3_changed cX3_changed 5 (some .long), Cond.methodLink RX3 60 Lib.MathLoose.min_long.x, Cond.static Lib.MathLoose.min_long.x, Cond.code Lib.MathLoose.min_long.x Lib.MathLoose.min_long.code 4 (some .long), Cond.methodLink RX8 290 yX4_areSoBy, Cond.instanceMethod yX4_areSoBy, Cond.selects RX4 yX4_areSoBy yX4_areSoBy, Cond.initialized RX4, Cond.code yX4_areSoBy cX4_areSoBy 3 (some .boolean), Cond.fieldLink RX4 9 "CappedRow$Readings" "count" "I", Cond.fieldLink RX4 15 "CappedRow$Readings" "cell" "[I", Cond.fieldLink RX4 29 "CappedRow$Numbers" "number" "[J", Cond.fieldLink RX4 19 "CappedRow$Readings" "value" "[J", Cond.methodLink RX4 23 yX3_has]
def wsX8_kinds : List Cond := .code yX8_kinds cX8_kinds 4 (some .int) :: ((wsX8_kinds_r1 ++ (wsX8_kinds_r2 ++ (wsX8_kinds_r3 ++ wsX8_kinds_r4))) ++ wsX80 ++ wsX10 ++ wsX20 ++ wsX30 ++ wsX00 ++ wsX40)
def wsX8_paces_r1 : List Cond := [Cond.fieldLink RX8 27 "CappedRow" "helpers" "LCappedRow$Helpers;", Cond.fieldLink RX8 146 "CappedRow$Helpers" "kind" "[I", Cond.methodLink RX8 142 yX1_has, Cond.instanceMethod yX1_has, Cond.selects RX1 yX1_has yX1_has, Cond.initialized RX1, Cond.code yX1_has cX1_has 3 (some .boolean), Cond.fieldLink RX1 9 "CappedRow$Helpers" "count" "I", Cond.methodLink RX8 275 yX8_fits, Cond.instanceMethod yX8_fits, Cond.selects RX8 yX8_fits yX8_fits, Cond.initialized RX8, Cond.code yX8_fits cX8_fits 5 (some .boolean), Cond.fieldLink RX8 31 "CappedRow" "guessed" "LCappedRow$Helpers;", Cond.fieldLink RX8 149 "CappedRow$Helpers" "pace" "[I", Cond.fieldLink RX8 58 "CappedRow" "trial" "LCappedRow$Numbers;", Cond.fieldLink RX8 55 "CappedRow" "base" "LCappedRow$Numbers;", Cond.fieldLink RX8 37 "CappedRow" "log" "LCappedRow$Log;", Cond.fieldLink RX8 135 "CappedRow$Log" "count" "I", Cond.fieldLink RX8 286 "CappedRow$Log" "acts" "[LCappedRow$Act;", Cond.fieldLink RX8 71 "CappedRow" "readings" "LCappedRow$Readings;", Cond.methodLink RX8 123 yX1_becomeLike, Cond.instanceMethod yX1_becomeLike, Cond.selects RX1 yX1_becomeLike yX1_becomeLike]
def wsX8_paces_r2 : List Cond := [Cond.code yX1_becomeLike cX1_becomeLike 2 none, Cond.fieldLink RX1 15 "CappedRow$Helpers" "kind" "[I", Cond.methodLink RX1 22 arraycopyName, Cond.native arraycopyName, Cond.static arraycopyName, Cond.initialized "java/lang/System", Cond.fieldLink RX1 19 "CappedRow$Helpers" "pace" "[I", Cond.methodLink RX8 139 yX3_becomeLike, Cond.instanceMethod yX3_becomeLike, Cond.selects RX3 yX3_becomeLike yX3_becomeLike, Cond.initialized RX3, Cond.code yX3_becomeLike cX3_becomeLike 2 none, Cond.fieldLink RX3 9 "CappedRow$Numbers" "count" "I", Cond.fieldLink RX3 15 "CappedRow$Numbers" "number" "[J", Cond.methodLink RX3 22 arraycopyName, Cond.methodLink RX3 28 yX3_forgetWhatWas, Cond.instanceMethod yX3_forgetWhatWas, Cond.selects RX3 yX3_forgetWhatWas yX3_forgetWhatWas, Cond.code yX3_forgetWhatWas cX3_forgetWhatWas 1 none, Cond.fieldLink RX3 19 "CappedRow$Numbers" "historic" "[J", Cond.methodLink RX8 207 yX3_suffer, Cond.instanceMethod yX3_suffer, Cond.selects RX3 yX3_suffer yX3_suffer, Cond.code yX3_suffer cX3_suffer 9 (some .int)]
def wsX8_paces_r3 : List Cond := [Cond.fieldLink RX3 31 "CappedRow$Act" "from" "I", Cond.fieldLink RX3 40 "CappedRow$Act" "to" "I", Cond.fieldLink RX3 47 "CappedRow$Act" "sort" "I", Cond.methodLink RX3 54 Lib.MathLoose.max_long.x, Cond.static Lib.MathLoose.max_long.x, Cond.initialized "java/lang/Math", Cond.code Lib.MathLoose.max_long.x Lib.MathLoose.max_long.code 4 (some .long), Cond.methodLink RX3 36 yX3_has, Cond.instanceMethod yX3_has, Cond.selects RX3 yX3_has yX3_has, Cond.code yX3_has cX3_has 2 (some .boolean), Cond.methodLink RX3 43 yX0_amount, Cond.instanceMethod yX0_amount, Cond.selects RX0 yX0_amount yX0_amount, Cond.initialized RX0, Cond.code yX0_amount cX0_amount 2 (some .long), Cond.fieldLink RX0 9 "CappedRow$Act" "sort" "I", Cond.fieldLink RX0 21 "CappedRow$Act" "v" "J", Cond.methodLink RX0 25 yX1_strength, Cond.instanceMethod yX1_strength, Cond.selects RX1 yX1_strength yX1_strength, Cond.code yX1_strength cX1_strength 4 (some .int), Cond.methodLink RX1 28 yX1_has, Cond.methodLink RX3 50 yX3_changed]
def wsX8_paces_r4 : List Cond := [Cond.static yX3_changed, Cond.code yX3_changed cX3_changed 5 (some .long), Cond.methodLink RX3 60 Lib.MathLoose.min_long.x, Cond.static Lib.MathLoose.min_long.x, Cond.code Lib.MathLoose.min_long.x Lib.MathLoose.min_long.code 4 (some .long), Cond.methodLink RX8 290 yX4_areSoBy, Cond.instanceMethod yX4_areSoBy, Cond.selects RX4 yX4_areSoBy yX4_areSoBy, Cond.initialized RX4, Cond.code yX4_areSoBy cX4_areSoBy 3 (some .boolean), Cond.fieldLink RX4 9 "CappedRow$Readings" "count" "I", Cond.fieldLink RX4 15 "CappedRow$Readings" "cell" "[I", Cond.fieldLink RX4 29 "CappedRow$Numbers" "number" "[J", Cond.fieldLink RX4 19 "CappedRow$Readings" "value" "[J", Cond.methodLink RX4 23 yX3_has]
def wsX8_paces : List Cond := .code yX8_paces cX8_paces 4 (some .int) :: ((wsX8_paces_r1 ++ (wsX8_paces_r2 ++ (wsX8_paces_r3 ++ wsX8_paces_r4))) ++ wsX80 ++ wsX10 ++ wsX20 ++ wsX30 ++ wsX00 ++ wsX40)
def wsX8_commonDivisor : List Cond := .code yX8_commonDivisor cX8_commonDivisor 3 (some .int) :: ([])
def wsX8_odds : List Cond := .code yX8_odds cX8_odds 9 (some .long) :: ([.constantLong RX8 161 (-9223372036854775808), .fieldLink RX8 51 "CappedRow" "now" "LCappedRow$Numbers;", .fieldLink RX8 114 "CappedRow$Numbers" "number" "[J", .methodLink RX8 174 yX8_refusedRun, .instanceMethod yX8_refusedRun, .selects RX8 yX8_refusedRun yX8_refusedRun, .initialized RX8, .code yX8_refusedRun cX8_refusedRun 3 (some .int), .methodLink RX8 159 yX3_has, .instanceMethod yX3_has, .selects RX3 yX3_has yX3_has, .initialized RX3, .code yX3_has cX3_has 2 (some .boolean), .fieldLink RX3 9 "CappedRow$Numbers" "count" "I", .methodLink RX8 279 yX8_howManyFrom, .static yX8_howManyFrom, .code yX8_howManyFrom cX8_howManyFrom 7 (some .int), .methodLink RX8 283 yX8_commonDivisor, .static yX8_commonDivisor, .code yX8_commonDivisor cX8_commonDivisor 3 (some .int)] ++ wsX80 ++ wsX30)
def wsX8_sheet_r1 : List Cond := [Cond.fieldLink RX8 79 "CappedRow" "lastFault" "I", Cond.fieldLink RX8 13 "CappedRow" "sheets" "[LCappedRow$Sheet;", Cond.methodLink RX8 83 yX8_isSheet, Cond.static yX8_isSheet, Cond.initialized RX8, Cond.code yX8_isSheet cX8_isSheet 1 (some .boolean), Cond.methodLink RX8 87 yX8_isLane, Cond.static yX8_isLane, Cond.code yX8_isLane cX8_isLane 1 (some .boolean), Cond.methodLink RX8 94 yX8_failed, Cond.instanceMethod yX8_failed, Cond.selects RX8 yX8_failed yX8_failed, Cond.code yX8_failed cX8_failed 2 (some .int), Cond.methodLink RX8 294 yX5_getRow, Cond.instanceMethod yX5_getRow, Cond.selects RX5 yX5_getRow yX5_getRow, Cond.initialized RX5, Cond.code yX5_getRow cX5_getRow 3 none, Cond.fieldLink RX5 9 "CappedRow$Sheet" "hasRow" "Z", Cond.fieldLink RX5 15 "CappedRow$Sheet" "lane" "I", Cond.fieldLink RX5 19 "CappedRow$Sheet" "length" "I", Cond.fieldLink RX5 22 "CappedRow$Sheet" "cells" "[I", Cond.methodLink RX5 26 yJ7_fill_53178, Cond.static yJ7_fill_53178]
def wsX8_sheet_r2 : List Cond := [Cond.initialized RJ7, Cond.code yJ7_fill_53178 cJ7_fill_53178 4 none]
def wsX8_sheet : List Cond := .code yX8_sheet cX8_sheet 4 (some .int) :: ((wsX8_sheet_r1 ++ wsX8_sheet_r2) ++ wsX80 ++ wsX50)
def wsX8_lose : List Cond := .code yX8_lose cX8_lose 2 (some .int) :: ([.fieldLink RX8 13 "CappedRow" "sheets" "[LCappedRow$Sheet;", .methodLink RX8 83 yX8_isSheet, .static yX8_isSheet, .initialized RX8, .code yX8_isSheet cX8_isSheet 1 (some .boolean), .methodLink RX8 298 yX5_loseRow, .instanceMethod yX5_loseRow, .selects RX5 yX5_loseRow yX5_loseRow, .initialized RX5, .code yX5_loseRow cX5_loseRow 2 (some .boolean), .fieldLink RX5 9 "CappedRow$Sheet" "hasRow" "Z", .fieldLink RX5 19 "CappedRow$Sheet" "length" "I"] ++ wsX80 ++ wsX50)
def wsX8_put : List Cond := .code yX8_put cX8_put 5 (some .int) :: ([.fieldLink RX8 79 "CappedRow" "lastFault" "I", .fieldLink RX8 13 "CappedRow" "sheets" "[LCappedRow$Sheet;", .fieldLink RX8 301 "CappedRow$Sheet" "hasRow" "Z", .fieldLink RX8 305 "CappedRow$Sheet" "cells" "[I", .methodLink RX8 83 yX8_isSheet, .static yX8_isSheet, .initialized RX8, .code yX8_isSheet cX8_isSheet 1 (some .boolean), .methodLink RX8 94 yX8_failed, .instanceMethod yX8_failed, .selects RX8 yX8_failed yX8_failed, .code yX8_failed cX8_failed 2 (some .int), .methodLink RX8 97 yX5_hasCells, .instanceMethod yX5_hasCells, .selects RX5 yX5_hasCells yX5_hasCells, .initialized RX5, .code yX5_hasCells cX5_hasCells 3 (some .boolean), .fieldLink RX5 19 "CappedRow$Sheet" "length" "I", .methodLink RX8 307 yX5_cut, .instanceMethod yX5_cut, .selects RX5 yX5_cut yX5_cut, .code yX5_cut cX5_cut 2 (some .int), .fieldLink RX5 15 "CappedRow$Sheet" "lane" "I"] ++ wsX80 ++ wsX50)
def wsX8_cell_r1 : List Cond := [Cond.fieldLink RX8 79 "CappedRow" "lastFault" "I", Cond.constantLong RX8 161 (-9223372036854775808), Cond.fieldLink RX8 13 "CappedRow" "sheets" "[LCappedRow$Sheet;", Cond.fieldLink RX8 305 "CappedRow$Sheet" "cells" "[I", Cond.methodLink RX8 83 yX8_isSheet, Cond.static yX8_isSheet, Cond.initialized RX8, Cond.code yX8_isSheet cX8_isSheet 1 (some .boolean), Cond.methodLink RX8 87 yX8_isLane, Cond.static yX8_isLane, Cond.code yX8_isLane cX8_isLane 1 (some .boolean), Cond.methodLink RX8 90 yX5_faultTakenAs, Cond.instanceMethod yX5_faultTakenAs, Cond.selects RX5 yX5_faultTakenAs yX5_faultTakenAs, Cond.initialized RX5, Cond.code yX5_faultTakenAs cX5_faultTakenAs 2 (some .int), Cond.fieldLink RX5 9 "CappedRow$Sheet" "hasRow" "Z", Cond.fieldLink RX5 15 "CappedRow$Sheet" "lane" "I", Cond.methodLink RX8 185 yX8_lost, Cond.instanceMethod yX8_lost, Cond.selects RX8 yX8_lost yX8_lost, Cond.code yX8_lost cX8_lost 2 (some .long), Cond.methodLink RX8 97 yX5_hasCells, Cond.instanceMethod yX5_hasCells]
def wsX8_cell_r2 : List Cond := [Cond.selects RX5 yX5_hasCells yX5_hasCells, Cond.code yX5_hasCells cX5_hasCells 3 (some .boolean), Cond.fieldLink RX5 19 "CappedRow$Sheet" "length" "I"]
def wsX8_cell : List Cond := .code yX8_cell cX8_cell 6 (some .long) :: ((wsX8_cell_r1 ++ wsX8_cell_r2) ++ wsX80 ++ wsX50)
def wsX8_copy : List Cond := .code yX8_copy cX8_copy 8 (some .int) :: ([.fieldLink RX8 79 "CappedRow" "lastFault" "I", .fieldLink RX8 13 "CappedRow" "sheets" "[LCappedRow$Sheet;", .fieldLink RX8 301 "CappedRow$Sheet" "hasRow" "Z", .fieldLink RX8 310 "CappedRow$Sheet" "lane" "I", .fieldLink RX8 305 "CappedRow$Sheet" "cells" "[I", .methodLink RX8 313 arraycopyName, .native arraycopyName, .static arraycopyName, .initialized "java/lang/System", .methodLink RX8 83 yX8_isSheet, .static yX8_isSheet, .initialized RX8, .code yX8_isSheet cX8_isSheet 1 (some .boolean), .methodLink RX8 94 yX8_failed, .instanceMethod yX8_failed, .selects RX8 yX8_failed yX8_failed, .code yX8_failed cX8_failed 2 (some .int), .methodLink RX8 97 yX5_hasCells, .instanceMethod yX5_hasCells, .selects RX5 yX5_hasCells yX5_hasCells, .initialized RX5, .code yX5_hasCells cX5_hasCells 3 (some .boolean), .fieldLink RX5 19 "CappedRow$Sheet" "length" "I"] ++ wsX80 ++ wsX50)
def wsX8_leave : List Cond := .code yX8_leave cX8_leave 2 none :: ([.fieldLink RX8 75 "CappedRow" "traced" "I"] ++ wsX80)
def wsX8_plainBody : List Cond := .code yX8_plainBody cX8_plainBody 2 (some .int) :: ([.methodLink RX8 328 yX8_leave, .instanceMethod yX8_leave, .selects RX8 yX8_leave yX8_leave, .initialized RX8, .code yX8_leave cX8_leave 2 none, .fieldLink RX8 75 "CappedRow" "traced" "I"] ++ wsX80)
def wsX8_broadBody : List Cond := .code yX8_broadBody cX8_broadBody 2 (some .int) :: ([.methodLink RX8 328 yX8_leave, .instanceMethod yX8_leave, .selects RX8 yX8_leave yX8_leave, .initialized RX8, .code yX8_leave cX8_leave 2 none, .fieldLink RX8 75 "CappedRow" "traced" "I", .methodLink RX8 325 yX8_plainBody, .instanceMethod yX8_plainBody, .selects RX8 yX8_plainBody yX8_plainBody, .code yX8_plainBody cX8_plainBody 2 (some .int)] ++ wsX80)
def wsX8_doubleBody : List Cond := .code yX8_doubleBody cX8_doubleBody 3 (some .int) :: ([.methodLink RX8 328 yX8_leave, .instanceMethod yX8_leave, .selects RX8 yX8_leave yX8_leave, .initialized RX8, .code yX8_leave cX8_leave 2 none, .fieldLink RX8 75 "CappedRow" "traced" "I", .methodLink RX8 322 yX8_broadBody, .instanceMethod yX8_broadBody, .selects RX8 yX8_broadBody yX8_broadBody, .code yX8_broadBody cX8_broadBody 2 (some .int), .methodLink RX8 325 yX8_plainBody, .instanceMethod yX8_plainBody, .selects RX8 yX8_plainBody yX8_plainBody, .code yX8_plainBody cX8_plainBody 2 (some .int)] ++ wsX80)
def wsX8_tell_r1 : List Cond := [Cond.fieldLink RX8 27 "CappedRow" "helpers" "LCappedRow$Helpers;", Cond.fieldLink RX8 149 "CappedRow$Helpers" "pace" "[I", Cond.fieldLink RX8 146 "CappedRow$Helpers" "kind" "[I", Cond.methodLink RX8 142 yX1_has, Cond.instanceMethod yX1_has, Cond.selects RX1 yX1_has yX1_has, Cond.initialized RX1, Cond.code yX1_has cX1_has 3 (some .boolean), Cond.fieldLink RX1 9 "CappedRow$Helpers" "count" "I", Cond.methodLink RX8 319 yX8_doubleBody, Cond.instanceMethod yX8_doubleBody, Cond.selects RX8 yX8_doubleBody yX8_doubleBody, Cond.initialized RX8, Cond.code yX8_doubleBody cX8_doubleBody 3 (some .int), Cond.methodLink RX8 328 yX8_leave, Cond.instanceMethod yX8_leave, Cond.selects RX8 yX8_leave yX8_leave, Cond.code yX8_leave cX8_leave 2 none, Cond.fieldLink RX8 75 "CappedRow" "traced" "I", Cond.methodLink RX8 322 yX8_broadBody, Cond.instanceMethod yX8_broadBody, Cond.selects RX8 yX8_broadBody yX8_broadBody, Cond.code yX8_broadBody cX8_broadBody 2 (some .int), Cond.methodLink RX8 325 yX8_plainBody]
def wsX8_tell_r2 : List Cond := [Cond.instanceMethod yX8_plainBody, Cond.selects RX8 yX8_plainBody yX8_plainBody, Cond.code yX8_plainBody cX8_plainBody 2 (some .int)]
def wsX8_tell : List Cond := .code yX8_tell cX8_tell 3 (some .int) :: ((wsX8_tell_r1 ++ wsX8_tell_r2) ++ wsX80 ++ wsX10)
def wsX8_cheer : List Cond := .code yX8_cheer cX8_cheer 3 (some .int) :: ([.fieldLink RX8 27 "CappedRow" "helpers" "LCappedRow$Helpers;", .fieldLink RX8 146 "CappedRow$Helpers" "kind" "[I", .methodLink RX8 142 yX1_has, .instanceMethod yX1_has, .selects RX1 yX1_has yX1_has, .initialized RX1, .code yX1_has cX1_has 3 (some .boolean), .fieldLink RX1 9 "CappedRow$Helpers" "count" "I", .methodLink RX8 328 yX8_leave, .instanceMethod yX8_leave, .selects RX8 yX8_leave yX8_leave, .initialized RX8, .code yX8_leave cX8_leave 2 none, .fieldLink RX8 75 "CappedRow" "traced" "I"] ++ wsX80 ++ wsX10)
def wsX8_as : List Cond := .code yX8_as cX8_as 3 (some .int) :: ([.fieldLink RX8 79 "CappedRow" "lastFault" "I", .fieldLink RX8 27 "CappedRow" "helpers" "LCappedRow$Helpers;", .fieldLink RX8 146 "CappedRow$Helpers" "kind" "[I", .methodLink RX8 142 yX1_has, .instanceMethod yX1_has, .selects RX1 yX1_has yX1_has, .initialized RX1, .code yX1_has cX1_has 3 (some .boolean), .fieldLink RX1 9 "CappedRow$Helpers" "count" "I", .methodLink RX8 94 yX8_failed, .instanceMethod yX8_failed, .selects RX8 yX8_failed yX8_failed, .initialized RX8, .code yX8_failed cX8_failed 2 (some .int)] ++ wsX80 ++ wsX10)
def wsX8_trace : List Cond := .code yX8_trace cX8_trace 1 (some .int) :: ([.fieldLink RX8 75 "CappedRow" "traced" "I"] ++ wsX80)
def wsX8_fault : List Cond := .code yX8_fault cX8_fault 1 (some .int) :: ([.fieldLink RX8 79 "CappedRow" "lastFault" "I"] ++ wsX80)
def wsX8_many : List Cond := .code yX8_many cX8_many 2 (some .int) :: ([.fieldLink RX8 51 "CappedRow" "now" "LCappedRow$Numbers;", .fieldLink RX8 108 "CappedRow$Numbers" "count" "I", .fieldLink RX8 27 "CappedRow" "helpers" "LCappedRow$Helpers;", .fieldLink RX8 331 "CappedRow$Helpers" "count" "I", .fieldLink RX8 37 "CappedRow" "log" "LCappedRow$Log;", .fieldLink RX8 135 "CappedRow$Log" "count" "I", .fieldLink RX8 64 "CappedRow" "spans" "LCappedRow$Spans;", .fieldLink RX8 71 "CappedRow" "readings" "LCappedRow$Readings;", .fieldLink RX8 131 "CappedRow$Readings" "count" "I", .methodLink RX8 332 yX6_count, .instanceMethod yX6_count, .selects RX6 yX6_count yX6_count, .initialized RX6, .code yX6_count cX6_count 3 (some .int), .methodLink RX6 24 yX6_has, .instanceMethod yX6_has, .selects RX6 yX6_has yX6_has, .code yX6_has cX6_has 2 (some .boolean), .fieldLink RX6 9 "CappedRow$Spans" "first" "[I", .fieldLink RX6 15 "CappedRow$Spans" "last" "[I"] ++ wsX80 ++ wsX30 ++ wsX10 ++ wsX20 ++ wsX40 ++ wsX60)
def wsX9_init_r1 : List Cond := [Cond.methodLink RX9 1 objectInit, Cond.instanceMethod objectInit, Cond.code objectInit ⟨#[0xb1]⟩ 1 none, Cond.arrayClass .int, Cond.fieldLink RX9 9 "CappedRowModel" "sorts" "[I", Cond.fieldLink RX9 13 "CappedRowModel" "sheetLong" "[I", Cond.fieldLink RX9 16 "CappedRowModel" "cells" "[I", Cond.arrayClass .long, Cond.fieldLink RX9 19 "CappedRowModel" "numbers" "[J", Cond.fieldLink RX9 23 "CappedRowModel" "historic" "[J", Cond.fieldLink RX9 26 "CappedRowModel" "base" "[J", Cond.fieldLink RX9 29 "CappedRowModel" "kind" "[I", Cond.fieldLink RX9 32 "CappedRowModel" "pace" "[I", Cond.fieldLink RX9 35 "CappedRowModel" "logSort" "[I", Cond.fieldLink RX9 38 "CappedRowModel" "logFrom" "[I", Cond.fieldLink RX9 41 "CappedRowModel" "logTo" "[I", Cond.fieldLink RX9 44 "CappedRowModel" "logNumber" "[J", Cond.fieldLink RX9 47 "CappedRowModel" "readNumbers" "[I", Cond.fieldLink RX9 50 "CappedRowModel" "readKind" "[I", Cond.fieldLink RX9 53 "CappedRowModel" "readPace" "[I", Cond.fieldLink RX9 56 "CappedRowModel" "keptNumbers" "[J", Cond.fieldLink RX9 59 "CappedRowModel" "keptHistoric" "[J", Cond.fieldLink RX9 62 "CappedRowModel" "lookedInto" "[I", Cond.fieldLink RX9 65 "CappedRowModel" "readCell" "[I"]
def wsX9_init_r2 : List Cond := [Cond.fieldLink RX9 68 "CappedRowModel" "readNumber" "[J"]
def wsX9_init : List Cond := .code yX9_init cX9_init 1 none :: ((wsX9_init_r1 ++ wsX9_init_r2) ++ wsX90)
def wsX9_fails : List Cond := .code yX9_fails cX9_fails 2 (some .int) :: ([.fieldLink RX9 71 "CappedRowModel" "fault" "I"] ++ wsX90)
def wsX9_lost : List Cond := .code yX9_lost cX9_lost 2 (some .long) :: ([.fieldLink RX9 71 "CappedRowModel" "fault" "I", .constantLong RX9 75 (-9223372036854775808)] ++ wsX90)
def wsX9_within : List Cond := .code yX9_within cX9_within 3 (some .boolean) :: ([])
def wsX9_isBetween : List Cond := .code yX9_isBetween cX9_isBetween 6 (some .boolean) :: ([])
def wsX9_isSheet : List Cond := .code yX9_isSheet cX9_isSheet 1 (some .boolean) :: ([.methodLink RX9 77 yX9_within, .static yX9_within, .initialized RX9, .code yX9_within cX9_within 3 (some .boolean)])
def wsX9_isSort : List Cond := .code yX9_isSort cX9_isSort 1 (some .boolean) :: ([.methodLink RX9 77 yX9_within, .static yX9_within, .initialized RX9, .code yX9_within cX9_within 3 (some .boolean)])
def wsX9_against : List Cond := .code yX9_against cX9_against 5 (some .int) :: ([.fieldLink RX9 9 "CappedRowModel" "sorts" "[I", .fieldLink RX9 13 "CappedRowModel" "sheetLong" "[I"] ++ wsX90)
def wsX9_isCell : List Cond := .code yX9_isCell cX9_isCell 2 (some .boolean) :: ([.fieldLink RX9 81 "CappedRowModel" "many" "I"] ++ wsX90)
def wsX9_isHelper : List Cond := .code yX9_isHelper cX9_isHelper 2 (some .boolean) :: ([.fieldLink RX9 84 "CappedRowModel" "helpers" "I"] ++ wsX90)
def wsX9_digit : List Cond := .code yX9_digit cX9_digit 2 (some .int) :: ([.fieldLink RX9 87 "CappedRowModel" "at" "I", .fieldLink RX9 16 "CappedRowModel" "cells" "[I", .methodLink RX9 77 yX9_within, .static yX9_within, .initialized RX9, .code yX9_within cX9_within 3 (some .boolean)] ++ wsX90)
def wsX9_isSign : List Cond := .code yX9_isSign cX9_isSign 3 (some .boolean) :: ([.fieldLink RX9 87 "CappedRowModel" "at" "I", .fieldLink RX9 16 "CappedRowModel" "cells" "[I"] ++ wsX90)
def wsX9_readHelper : List Cond := .code yX9_readHelper cX9_readHelper 3 (some .boolean) :: ([.fieldLink RX9 87 "CappedRowModel" "at" "I", .fieldLink RX9 16 "CappedRowModel" "cells" "[I", .fieldLink RX9 50 "CappedRowModel" "readKind" "[I", .fieldLink RX9 111 "CappedRowModel" "readHelpers" "I", .fieldLink RX9 53 "CappedRowModel" "readPace" "[I", .methodLink RX9 127 yX9_digit, .instanceMethod yX9_digit, .selects RX9 yX9_digit yX9_digit, .initialized RX9, .code yX9_digit cX9_digit 2 (some .int), .methodLink RX9 77 yX9_within, .static yX9_within, .code yX9_within cX9_within 3 (some .boolean)] ++ wsX90)
def wsX9_readRow : List Cond := .code yX9_readRow cX9_readRow 3 (some .boolean) :: ([.fieldLink RX9 108 "CappedRowModel" "readMany" "I", .fieldLink RX9 111 "CappedRowModel" "readHelpers" "I", .fieldLink RX9 47 "CappedRowModel" "readNumbers" "[I", .fieldLink RX9 87 "CappedRowModel" "at" "I", .methodLink RX9 123 yX9_isSign, .instanceMethod yX9_isSign, .selects RX9 yX9_isSign yX9_isSign, .initialized RX9, .code yX9_isSign cX9_isSign 3 (some .boolean), .fieldLink RX9 16 "CappedRowModel" "cells" "[I", .methodLink RX9 127 yX9_digit, .instanceMethod yX9_digit, .selects RX9 yX9_digit yX9_digit, .code yX9_digit cX9_digit 2 (some .int), .methodLink RX9 77 yX9_within, .static yX9_within, .code yX9_within cX9_within 3 (some .boolean), .methodLink RX9 130 yX9_readHelper, .instanceMethod yX9_readHelper, .selects RX9 yX9_readHelper yX9_readHelper, .code yX9_readHelper cX9_readHelper 3 (some .boolean), .fieldLink RX9 50 "CappedRowModel" "readKind" "[I", .fieldLink RX9 53 "CappedRowModel" "readPace" "[I"] ++ wsX90)
def wsX9_begins : List Cond := .code yX9_begins cX9_begins 2 none :: ([.fieldLink RX9 120 "CappedRowModel" "log" "I", .fieldLink RX9 81 "CappedRowModel" "many" "I", .fieldLink RX9 23 "CappedRowModel" "historic" "[J", .fieldLink RX9 19 "CappedRowModel" "numbers" "[J", .fieldLink RX9 26 "CappedRowModel" "base" "[J"] ++ wsX90)
def wsX9_row_r1 : List Cond := [Cond.fieldLink RX9 71 "CappedRowModel" "fault" "I", Cond.fieldLink RX9 87 "CappedRowModel" "at" "I", Cond.fieldLink RX9 108 "CappedRowModel" "readMany" "I", Cond.fieldLink RX9 81 "CappedRowModel" "many" "I", Cond.fieldLink RX9 111 "CappedRowModel" "readHelpers" "I", Cond.fieldLink RX9 84 "CappedRowModel" "helpers" "I", Cond.fieldLink RX9 19 "CappedRowModel" "numbers" "[J", Cond.fieldLink RX9 47 "CappedRowModel" "readNumbers" "[I", Cond.fieldLink RX9 29 "CappedRowModel" "kind" "[I", Cond.fieldLink RX9 50 "CappedRowModel" "readKind" "[I", Cond.fieldLink RX9 32 "CappedRowModel" "pace" "[I", Cond.fieldLink RX9 53 "CappedRowModel" "readPace" "[I", Cond.fieldLink RX9 117 "CappedRowModel" "readings" "I", Cond.methodLink RX9 90 yX9_isSheet, Cond.static yX9_isSheet, Cond.initialized RX9, Cond.code yX9_isSheet cX9_isSheet 1 (some .boolean), Cond.methodLink RX9 77 yX9_within, Cond.static yX9_within, Cond.code yX9_within cX9_within 3 (some .boolean), Cond.methodLink RX9 94 yX9_isSort, Cond.static yX9_isSort, Cond.code yX9_isSort cX9_isSort 1 (some .boolean), Cond.methodLink RX9 97 yX9_against]
def wsX9_row_r2 : List Cond := [Cond.instanceMethod yX9_against, Cond.selects RX9 yX9_against yX9_against, Cond.code yX9_against cX9_against 5 (some .int), Cond.fieldLink RX9 9 "CappedRowModel" "sorts" "[I", Cond.fieldLink RX9 13 "CappedRowModel" "sheetLong" "[I", Cond.methodLink RX9 101 yX9_fails, Cond.instanceMethod yX9_fails, Cond.selects RX9 yX9_fails yX9_fails, Cond.code yX9_fails cX9_fails 2 (some .int), Cond.methodLink RX9 105 yX9_readRow, Cond.instanceMethod yX9_readRow, Cond.selects RX9 yX9_readRow yX9_readRow, Cond.code yX9_readRow cX9_readRow 3 (some .boolean), Cond.methodLink RX9 123 yX9_isSign, Cond.instanceMethod yX9_isSign, Cond.selects RX9 yX9_isSign yX9_isSign, Cond.code yX9_isSign cX9_isSign 3 (some .boolean), Cond.fieldLink RX9 16 "CappedRowModel" "cells" "[I", Cond.methodLink RX9 127 yX9_digit, Cond.instanceMethod yX9_digit, Cond.selects RX9 yX9_digit yX9_digit, Cond.code yX9_digit cX9_digit 2 (some .int), Cond.methodLink RX9 130 yX9_readHelper, Cond.instanceMethod yX9_readHelper]
def wsX9_row_r3 : List Cond := [Cond.selects RX9 yX9_readHelper yX9_readHelper, Cond.code yX9_readHelper cX9_readHelper 3 (some .boolean), Cond.methodLink RX9 114 yX9_begins, Cond.instanceMethod yX9_begins, Cond.selects RX9 yX9_begins yX9_begins, Cond.code yX9_begins cX9_begins 2 none, Cond.fieldLink RX9 120 "CappedRowModel" "log" "I", Cond.fieldLink RX9 23 "CappedRowModel" "historic" "[J", Cond.fieldLink RX9 26 "CappedRowModel" "base" "[J"]
def wsX9_row : List Cond := .code yX9_row cX9_row 8 (some .int) :: ((wsX9_row_r1 ++ (wsX9_row_r2 ++ wsX9_row_r3)) ++ wsX90)
def wsX9_strengthOf : List Cond := .code yX9_strengthOf cX9_strengthOf 2 (some .int) :: ([.fieldLink RX9 29 "CappedRowModel" "kind" "[I", .fieldLink RX9 32 "CappedRowModel" "pace" "[I"] ++ wsX90)
def wsX9_actsOf : List Cond := .code yX9_actsOf cX9_actsOf 4 (some .int) :: ([.fieldLink RX9 120 "CappedRowModel" "log" "I", .fieldLink RX9 35 "CappedRowModel" "logSort" "[I", .fieldLink RX9 44 "CappedRowModel" "logNumber" "[J"] ++ wsX90)
def wsX9_ofHelper : List Cond := .code yX9_ofHelper cX9_ofHelper 3 (some .int) :: ([.fieldLink RX9 29 "CappedRowModel" "kind" "[I", .fieldLink RX9 32 "CappedRowModel" "pace" "[I", .methodLink RX9 133 yX9_isHelper, .instanceMethod yX9_isHelper, .selects RX9 yX9_isHelper yX9_isHelper, .initialized RX9, .code yX9_isHelper cX9_isHelper 2 (some .boolean), .fieldLink RX9 84 "CappedRowModel" "helpers" "I", .methodLink RX9 136 yX9_strengthOf, .instanceMethod yX9_strengthOf, .selects RX9 yX9_strengthOf yX9_strengthOf, .code yX9_strengthOf cX9_strengthOf 2 (some .int), .methodLink RX9 139 yX9_actsOf, .instanceMethod yX9_actsOf, .selects RX9 yX9_actsOf yX9_actsOf, .code yX9_actsOf cX9_actsOf 4 (some .int), .fieldLink RX9 120 "CappedRowModel" "log" "I", .fieldLink RX9 35 "CappedRowModel" "logSort" "[I", .fieldLink RX9 44 "CappedRowModel" "logNumber" "[J"] ++ wsX90)
def wsX9_at : List Cond := .code yX9_at cX9_at 3 (some .long) :: ([.constantLong RX9 75 (-9223372036854775808), .fieldLink RX9 19 "CappedRowModel" "numbers" "[J", .fieldLink RX9 23 "CappedRowModel" "historic" "[J", .methodLink RX9 142 yX9_isCell, .instanceMethod yX9_isCell, .selects RX9 yX9_isCell yX9_isCell, .initialized RX9, .code yX9_isCell cX9_isCell 2 (some .boolean), .fieldLink RX9 81 "CappedRowModel" "many" "I", .methodLink RX9 77 yX9_within, .static yX9_within, .code yX9_within cX9_within 3 (some .boolean)] ++ wsX90)
def wsX9_changed : List Cond := .code yX9_changed cX9_changed 6 (some .long) :: ([])
def wsX9_does : List Cond := .code yX9_does cX9_does 13 (some .int) :: ([.fieldLink RX9 19 "CappedRowModel" "numbers" "[J", .fieldLink RX9 23 "CappedRowModel" "historic" "[J", .methodLink RX9 136 yX9_strengthOf, .instanceMethod yX9_strengthOf, .selects RX9 yX9_strengthOf yX9_strengthOf, .initialized RX9, .code yX9_strengthOf cX9_strengthOf 2 (some .int), .fieldLink RX9 29 "CappedRowModel" "kind" "[I", .fieldLink RX9 32 "CappedRowModel" "pace" "[I", .methodLink RX9 145 yX9_changed, .instanceMethod yX9_changed, .selects RX9 yX9_changed yX9_changed, .code yX9_changed cX9_changed 6 (some .long)] ++ wsX90)
def wsX9_writes : List Cond := .code yX9_writes cX9_writes 6 none :: ([.fieldLink RX9 35 "CappedRowModel" "logSort" "[I", .fieldLink RX9 120 "CappedRowModel" "log" "I", .fieldLink RX9 38 "CappedRowModel" "logFrom" "[I", .fieldLink RX9 41 "CappedRowModel" "logTo" "[I", .fieldLink RX9 44 "CappedRowModel" "logNumber" "[J"] ++ wsX90)
def wsX9_refused : List Cond := .code yX9_refused cX9_refused 5 (some .int) :: ([.constantLong RX9 149 (-1000000000000), .constantLong RX9 151 (1000000000000), .fieldLink RX9 120 "CappedRowModel" "log" "I", .methodLink RX9 142 yX9_isCell, .instanceMethod yX9_isCell, .selects RX9 yX9_isCell yX9_isCell, .initialized RX9, .code yX9_isCell cX9_isCell 2 (some .boolean), .fieldLink RX9 81 "CappedRowModel" "many" "I", .methodLink RX9 153 yX9_isBetween, .static yX9_isBetween, .code yX9_isBetween cX9_isBetween 6 (some .boolean)] ++ wsX90)
def wsX9_add_r1 : List Cond := [Cond.fieldLink RX9 120 "CappedRowModel" "log" "I", Cond.methodLink RX9 157 yX9_refused, Cond.instanceMethod yX9_refused, Cond.selects RX9 yX9_refused yX9_refused, Cond.initialized RX9, Cond.code yX9_refused cX9_refused 5 (some .int), Cond.constantLong RX9 149 (-1000000000000), Cond.constantLong RX9 151 (1000000000000), Cond.methodLink RX9 142 yX9_isCell, Cond.instanceMethod yX9_isCell, Cond.selects RX9 yX9_isCell yX9_isCell, Cond.code yX9_isCell cX9_isCell 2 (some .boolean), Cond.fieldLink RX9 81 "CappedRowModel" "many" "I", Cond.methodLink RX9 153 yX9_isBetween, Cond.static yX9_isBetween, Cond.code yX9_isBetween cX9_isBetween 6 (some .boolean), Cond.methodLink RX9 161 yX9_does, Cond.instanceMethod yX9_does, Cond.selects RX9 yX9_does yX9_does, Cond.code yX9_does cX9_does 13 (some .int), Cond.fieldLink RX9 19 "CappedRowModel" "numbers" "[J", Cond.fieldLink RX9 23 "CappedRowModel" "historic" "[J", Cond.methodLink RX9 136 yX9_strengthOf, Cond.instanceMethod yX9_strengthOf]
def wsX9_add_r2 : List Cond := [Cond.selects RX9 yX9_strengthOf yX9_strengthOf, Cond.code yX9_strengthOf cX9_strengthOf 2 (some .int), Cond.fieldLink RX9 29 "CappedRowModel" "kind" "[I", Cond.fieldLink RX9 32 "CappedRowModel" "pace" "[I", Cond.methodLink RX9 145 yX9_changed, Cond.instanceMethod yX9_changed, Cond.selects RX9 yX9_changed yX9_changed, Cond.code yX9_changed cX9_changed 6 (some .long), Cond.methodLink RX9 165 yX9_writes, Cond.instanceMethod yX9_writes, Cond.selects RX9 yX9_writes yX9_writes, Cond.code yX9_writes cX9_writes 6 none, Cond.fieldLink RX9 35 "CappedRowModel" "logSort" "[I", Cond.fieldLink RX9 38 "CappedRowModel" "logFrom" "[I", Cond.fieldLink RX9 41 "CappedRowModel" "logTo" "[I", Cond.fieldLink RX9 44 "CappedRowModel" "logNumber" "[J"]
def wsX9_add : List Cond := .code yX9_add cX9_add 6 (some .int) :: ((wsX9_add_r1 ++ wsX9_add_r2) ++ wsX90)
def wsX9_cap_r1 : List Cond := [Cond.methodLink RX9 157 yX9_refused, Cond.instanceMethod yX9_refused, Cond.selects RX9 yX9_refused yX9_refused, Cond.initialized RX9, Cond.code yX9_refused cX9_refused 5 (some .int), Cond.constantLong RX9 149 (-1000000000000), Cond.constantLong RX9 151 (1000000000000), Cond.fieldLink RX9 120 "CappedRowModel" "log" "I", Cond.methodLink RX9 142 yX9_isCell, Cond.instanceMethod yX9_isCell, Cond.selects RX9 yX9_isCell yX9_isCell, Cond.code yX9_isCell cX9_isCell 2 (some .boolean), Cond.fieldLink RX9 81 "CappedRowModel" "many" "I", Cond.methodLink RX9 153 yX9_isBetween, Cond.static yX9_isBetween, Cond.code yX9_isBetween cX9_isBetween 6 (some .boolean), Cond.methodLink RX9 165 yX9_writes, Cond.instanceMethod yX9_writes, Cond.selects RX9 yX9_writes yX9_writes, Cond.code yX9_writes cX9_writes 6 none, Cond.fieldLink RX9 35 "CappedRowModel" "logSort" "[I", Cond.fieldLink RX9 38 "CappedRowModel" "logFrom" "[I", Cond.fieldLink RX9 41 "CappedRowModel" "logTo" "[I", Cond.fieldLink RX9 44 "CappedRowModel" "logNumber" "[J"]
def wsX9_cap_r2 : List Cond := [Cond.methodLink RX9 161 yX9_does, Cond.instanceMethod yX9_does, Cond.selects RX9 yX9_does yX9_does, Cond.code yX9_does cX9_does 13 (some .int), Cond.fieldLink RX9 19 "CappedRowModel" "numbers" "[J", Cond.fieldLink RX9 23 "CappedRowModel" "historic" "[J", Cond.methodLink RX9 136 yX9_strengthOf, Cond.instanceMethod yX9_strengthOf, Cond.selects RX9 yX9_strengthOf yX9_strengthOf, Cond.code yX9_strengthOf cX9_strengthOf 2 (some .int), Cond.fieldLink RX9 29 "CappedRowModel" "kind" "[I", Cond.fieldLink RX9 32 "CappedRowModel" "pace" "[I", Cond.methodLink RX9 145 yX9_changed, Cond.instanceMethod yX9_changed, Cond.selects RX9 yX9_changed yX9_changed, Cond.code yX9_changed cX9_changed 6 (some .long)]
def wsX9_cap : List Cond := .code yX9_cap cX9_cap 6 (some .int) :: ((wsX9_cap_r1 ++ wsX9_cap_r2) ++ wsX90)
def wsX9_floor_r1 : List Cond := [Cond.methodLink RX9 157 yX9_refused, Cond.instanceMethod yX9_refused, Cond.selects RX9 yX9_refused yX9_refused, Cond.initialized RX9, Cond.code yX9_refused cX9_refused 5 (some .int), Cond.constantLong RX9 149 (-1000000000000), Cond.constantLong RX9 151 (1000000000000), Cond.fieldLink RX9 120 "CappedRowModel" "log" "I", Cond.methodLink RX9 142 yX9_isCell, Cond.instanceMethod yX9_isCell, Cond.selects RX9 yX9_isCell yX9_isCell, Cond.code yX9_isCell cX9_isCell 2 (some .boolean), Cond.fieldLink RX9 81 "CappedRowModel" "many" "I", Cond.methodLink RX9 153 yX9_isBetween, Cond.static yX9_isBetween, Cond.code yX9_isBetween cX9_isBetween 6 (some .boolean), Cond.methodLink RX9 165 yX9_writes, Cond.instanceMethod yX9_writes, Cond.selects RX9 yX9_writes yX9_writes, Cond.code yX9_writes cX9_writes 6 none, Cond.fieldLink RX9 35 "CappedRowModel" "logSort" "[I", Cond.fieldLink RX9 38 "CappedRowModel" "logFrom" "[I", Cond.fieldLink RX9 41 "CappedRowModel" "logTo" "[I", Cond.fieldLink RX9 44 "CappedRowModel" "logNumber" "[J"]
def wsX9_floor_r2 : List Cond := [Cond.methodLink RX9 161 yX9_does, Cond.instanceMethod yX9_does, Cond.selects RX9 yX9_does yX9_does, Cond.code yX9_does cX9_does 13 (some .int), Cond.fieldLink RX9 19 "CappedRowModel" "numbers" "[J", Cond.fieldLink RX9 23 "CappedRowModel" "historic" "[J", Cond.methodLink RX9 136 yX9_strengthOf, Cond.instanceMethod yX9_strengthOf, Cond.selects RX9 yX9_strengthOf yX9_strengthOf, Cond.code yX9_strengthOf cX9_strengthOf 2 (some .int), Cond.fieldLink RX9 29 "CappedRowModel" "kind" "[I", Cond.fieldLink RX9 32 "CappedRowModel" "pace" "[I", Cond.methodLink RX9 145 yX9_changed, Cond.instanceMethod yX9_changed, Cond.selects RX9 yX9_changed yX9_changed, Cond.code yX9_changed cX9_changed 6 (some .long)]
def wsX9_floor : List Cond := .code yX9_floor cX9_floor 6 (some .int) :: ((wsX9_floor_r1 ++ wsX9_floor_r2) ++ wsX90)
def wsX9_help_r1 : List Cond := [Cond.fieldLink RX9 120 "CappedRowModel" "log" "I", Cond.methodLink RX9 133 yX9_isHelper, Cond.instanceMethod yX9_isHelper, Cond.selects RX9 yX9_isHelper yX9_isHelper, Cond.initialized RX9, Cond.code yX9_isHelper cX9_isHelper 2 (some .boolean), Cond.fieldLink RX9 84 "CappedRowModel" "helpers" "I", Cond.methodLink RX9 142 yX9_isCell, Cond.instanceMethod yX9_isCell, Cond.selects RX9 yX9_isCell yX9_isCell, Cond.code yX9_isCell cX9_isCell 2 (some .boolean), Cond.fieldLink RX9 81 "CappedRowModel" "many" "I", Cond.methodLink RX9 77 yX9_within, Cond.static yX9_within, Cond.code yX9_within cX9_within 3 (some .boolean), Cond.methodLink RX9 161 yX9_does, Cond.instanceMethod yX9_does, Cond.selects RX9 yX9_does yX9_does, Cond.code yX9_does cX9_does 13 (some .int), Cond.fieldLink RX9 19 "CappedRowModel" "numbers" "[J", Cond.fieldLink RX9 23 "CappedRowModel" "historic" "[J", Cond.methodLink RX9 136 yX9_strengthOf, Cond.instanceMethod yX9_strengthOf, Cond.selects RX9 yX9_strengthOf yX9_strengthOf]
def wsX9_help_r2 : List Cond := [Cond.code yX9_strengthOf cX9_strengthOf 2 (some .int), Cond.fieldLink RX9 29 "CappedRowModel" "kind" "[I", Cond.fieldLink RX9 32 "CappedRowModel" "pace" "[I", Cond.methodLink RX9 145 yX9_changed, Cond.instanceMethod yX9_changed, Cond.selects RX9 yX9_changed yX9_changed, Cond.code yX9_changed cX9_changed 6 (some .long), Cond.methodLink RX9 165 yX9_writes, Cond.instanceMethod yX9_writes, Cond.selects RX9 yX9_writes yX9_writes, Cond.code yX9_writes cX9_writes 6 none, Cond.fieldLink RX9 35 "CappedRowModel" "logSort" "[I", Cond.fieldLink RX9 38 "CappedRowModel" "logFrom" "[I", Cond.fieldLink RX9 41 "CappedRowModel" "logTo" "[I", Cond.fieldLink RX9 44 "CappedRowModel" "logNumber" "[J"]
def wsX9_help : List Cond := .code yX9_help cX9_help 6 (some .int) :: ((wsX9_help_r1 ++ wsX9_help_r2) ++ wsX90)
def wsX9_fresh : List Cond := .code yX9_fresh cX9_fresh 2 (some .int) :: ([.fieldLink RX9 81 "CappedRowModel" "many" "I", .fieldLink RX9 120 "CappedRowModel" "log" "I", .methodLink RX9 114 yX9_begins, .instanceMethod yX9_begins, .selects RX9 yX9_begins yX9_begins, .initialized RX9, .code yX9_begins cX9_begins 2 none, .fieldLink RX9 23 "CappedRowModel" "historic" "[J", .fieldLink RX9 19 "CappedRowModel" "numbers" "[J", .fieldLink RX9 26 "CappedRowModel" "base" "[J"] ++ wsX90)
def wsX9_keep : List Cond := .code yX9_keep cX9_keep 2 none :: ([.fieldLink RX9 81 "CappedRowModel" "many" "I", .fieldLink RX9 56 "CappedRowModel" "keptNumbers" "[J", .fieldLink RX9 19 "CappedRowModel" "numbers" "[J", .fieldLink RX9 59 "CappedRowModel" "keptHistoric" "[J", .fieldLink RX9 23 "CappedRowModel" "historic" "[J"] ++ wsX90)
def wsX9_putBack : List Cond := .code yX9_putBack cX9_putBack 2 none :: ([.fieldLink RX9 81 "CappedRowModel" "many" "I", .fieldLink RX9 19 "CappedRowModel" "numbers" "[J", .fieldLink RX9 56 "CappedRowModel" "keptNumbers" "[J", .fieldLink RX9 23 "CappedRowModel" "historic" "[J", .fieldLink RX9 59 "CappedRowModel" "keptHistoric" "[J"] ++ wsX90)
def wsX9_goesFour_r1 : List Cond := [Cond.fieldLink RX9 16 "CappedRowModel" "cells" "[I", Cond.methodLink RX9 142 yX9_isCell, Cond.instanceMethod yX9_isCell, Cond.selects RX9 yX9_isCell yX9_isCell, Cond.initialized RX9, Cond.code yX9_isCell cX9_isCell 2 (some .boolean), Cond.fieldLink RX9 81 "CappedRowModel" "many" "I", Cond.methodLink RX9 133 yX9_isHelper, Cond.instanceMethod yX9_isHelper, Cond.selects RX9 yX9_isHelper yX9_isHelper, Cond.code yX9_isHelper cX9_isHelper 2 (some .boolean), Cond.fieldLink RX9 84 "CappedRowModel" "helpers" "I", Cond.methodLink RX9 161 yX9_does, Cond.instanceMethod yX9_does, Cond.selects RX9 yX9_does yX9_does, Cond.code yX9_does cX9_does 13 (some .int), Cond.fieldLink RX9 19 "CappedRowModel" "numbers" "[J", Cond.fieldLink RX9 23 "CappedRowModel" "historic" "[J", Cond.methodLink RX9 136 yX9_strengthOf, Cond.instanceMethod yX9_strengthOf, Cond.selects RX9 yX9_strengthOf yX9_strengthOf, Cond.code yX9_strengthOf cX9_strengthOf 2 (some .int), Cond.fieldLink RX9 29 "CappedRowModel" "kind" "[I", Cond.fieldLink RX9 32 "CappedRowModel" "pace" "[I"]
def wsX9_goesFour_r2 : List Cond := [Cond.methodLink RX9 145 yX9_changed, Cond.instanceMethod yX9_changed, Cond.selects RX9 yX9_changed yX9_changed, Cond.code yX9_changed cX9_changed 6 (some .long)]
def wsX9_goesFour : List Cond := .code yX9_goesFour cX9_goesFour 6 (some .boolean) :: ((wsX9_goesFour_r1 ++ wsX9_goesFour_r2) ++ wsX90)
def wsX9_goDay_r1 : List Cond := [Cond.methodLink RX9 169 yX9_goesFour, Cond.instanceMethod yX9_goesFour, Cond.selects RX9 yX9_goesFour yX9_goesFour, Cond.initialized RX9, Cond.code yX9_goesFour cX9_goesFour 6 (some .boolean), Cond.fieldLink RX9 16 "CappedRowModel" "cells" "[I", Cond.methodLink RX9 142 yX9_isCell, Cond.instanceMethod yX9_isCell, Cond.selects RX9 yX9_isCell yX9_isCell, Cond.code yX9_isCell cX9_isCell 2 (some .boolean), Cond.fieldLink RX9 81 "CappedRowModel" "many" "I", Cond.methodLink RX9 133 yX9_isHelper, Cond.instanceMethod yX9_isHelper, Cond.selects RX9 yX9_isHelper yX9_isHelper, Cond.code yX9_isHelper cX9_isHelper 2 (some .boolean), Cond.fieldLink RX9 84 "CappedRowModel" "helpers" "I", Cond.methodLink RX9 161 yX9_does, Cond.instanceMethod yX9_does, Cond.selects RX9 yX9_does yX9_does, Cond.code yX9_does cX9_does 13 (some .int), Cond.fieldLink RX9 19 "CappedRowModel" "numbers" "[J", Cond.fieldLink RX9 23 "CappedRowModel" "historic" "[J", Cond.methodLink RX9 136 yX9_strengthOf, Cond.instanceMethod yX9_strengthOf]
def wsX9_goDay_r2 : List Cond := [Cond.selects RX9 yX9_strengthOf yX9_strengthOf, Cond.code yX9_strengthOf cX9_strengthOf 2 (some .int), Cond.fieldLink RX9 29 "CappedRowModel" "kind" "[I", Cond.fieldLink RX9 32 "CappedRowModel" "pace" "[I", Cond.methodLink RX9 145 yX9_changed, Cond.instanceMethod yX9_changed, Cond.selects RX9 yX9_changed yX9_changed, Cond.code yX9_changed cX9_changed 6 (some .long)]
def wsX9_goDay : List Cond := .code yX9_goDay cX9_goDay 4 (some .int) :: ((wsX9_goDay_r1 ++ wsX9_goDay_r2) ++ wsX90)
def wsX9_sumOf : List Cond := .code yX9_sumOf cX9_sumOf 6 (some .long) :: ([.fieldLink RX9 19 "CappedRowModel" "numbers" "[J"] ++ wsX90)
def wsX9_greatestOf : List Cond := .code yX9_greatestOf cX9_greatestOf 6 (some .long) :: ([.fieldLink RX9 19 "CappedRowModel" "numbers" "[J"] ++ wsX90)
def wsX9_leastOf : List Cond := .code yX9_leastOf cX9_leastOf 6 (some .long) :: ([.fieldLink RX9 19 "CappedRowModel" "numbers" "[J"] ++ wsX90)
def wsX9_greatestEver : List Cond := .code yX9_greatestEver cX9_greatestEver 6 (some .long) :: ([.fieldLink RX9 23 "CappedRowModel" "historic" "[J"] ++ wsX90)
def wsX9_tellDay_r1 : List Cond := [Cond.fieldLink RX9 19 "CappedRowModel" "numbers" "[J", Cond.constantLong RX9 75 (-9223372036854775808), Cond.fieldLink RX9 81 "CappedRowModel" "many" "I", Cond.methodLink RX9 142 yX9_isCell, Cond.instanceMethod yX9_isCell, Cond.selects RX9 yX9_isCell yX9_isCell, Cond.initialized RX9, Cond.code yX9_isCell cX9_isCell 2 (some .boolean), Cond.methodLink RX9 189 yX9_sumOf, Cond.instanceMethod yX9_sumOf, Cond.selects RX9 yX9_sumOf yX9_sumOf, Cond.code yX9_sumOf cX9_sumOf 6 (some .long), Cond.methodLink RX9 193 yX9_greatestOf, Cond.instanceMethod yX9_greatestOf, Cond.selects RX9 yX9_greatestOf yX9_greatestOf, Cond.code yX9_greatestOf cX9_greatestOf 6 (some .long), Cond.methodLink RX9 196 yX9_leastOf, Cond.instanceMethod yX9_leastOf, Cond.selects RX9 yX9_leastOf yX9_leastOf, Cond.code yX9_leastOf cX9_leastOf 6 (some .long), Cond.methodLink RX9 199 yX9_greatestEver, Cond.instanceMethod yX9_greatestEver, Cond.selects RX9 yX9_greatestEver yX9_greatestEver, Cond.code yX9_greatestEver cX9_greatestEver 6 (some .long)]
def wsX9_tellDay_r2 : List Cond := [Cond.fieldLink RX9 23 "CappedRowModel" "historic" "[J"]
def wsX9_tellDay : List Cond := .code yX9_tellDay cX9_tellDay 3 (some .long) :: ((wsX9_tellDay_r1 ++ wsX9_tellDay_r2) ++ wsX90)
def wsX9_day_r1 : List Cond := [Cond.fieldLink RX9 71 "CappedRowModel" "fault" "I", Cond.constantLong RX9 75 (-9223372036854775808), Cond.fieldLink RX9 81 "CappedRowModel" "many" "I", Cond.fieldLink RX9 16 "CappedRowModel" "cells" "[I", Cond.fieldLink RX9 23 "CappedRowModel" "historic" "[J", Cond.fieldLink RX9 19 "CappedRowModel" "numbers" "[J", Cond.methodLink RX9 90 yX9_isSheet, Cond.static yX9_isSheet, Cond.initialized RX9, Cond.code yX9_isSheet cX9_isSheet 1 (some .boolean), Cond.methodLink RX9 77 yX9_within, Cond.static yX9_within, Cond.code yX9_within cX9_within 3 (some .boolean), Cond.methodLink RX9 94 yX9_isSort, Cond.static yX9_isSort, Cond.code yX9_isSort cX9_isSort 1 (some .boolean), Cond.methodLink RX9 97 yX9_against, Cond.instanceMethod yX9_against, Cond.selects RX9 yX9_against yX9_against, Cond.code yX9_against cX9_against 5 (some .int), Cond.fieldLink RX9 9 "CappedRowModel" "sorts" "[I", Cond.fieldLink RX9 13 "CappedRowModel" "sheetLong" "[I", Cond.methodLink RX9 172 yX9_lost, Cond.instanceMethod yX9_lost]
def wsX9_day_r2 : List Cond := [Cond.selects RX9 yX9_lost yX9_lost, Cond.code yX9_lost cX9_lost 2 (some .long), Cond.methodLink RX9 176 yX9_keep, Cond.instanceMethod yX9_keep, Cond.selects RX9 yX9_keep yX9_keep, Cond.code yX9_keep cX9_keep 2 none, Cond.fieldLink RX9 56 "CappedRowModel" "keptNumbers" "[J", Cond.fieldLink RX9 59 "CappedRowModel" "keptHistoric" "[J", Cond.methodLink RX9 179 yX9_goDay, Cond.instanceMethod yX9_goDay, Cond.selects RX9 yX9_goDay yX9_goDay, Cond.code yX9_goDay cX9_goDay 4 (some .int), Cond.methodLink RX9 169 yX9_goesFour, Cond.instanceMethod yX9_goesFour, Cond.selects RX9 yX9_goesFour yX9_goesFour, Cond.code yX9_goesFour cX9_goesFour 6 (some .boolean), Cond.methodLink RX9 142 yX9_isCell, Cond.instanceMethod yX9_isCell, Cond.selects RX9 yX9_isCell yX9_isCell, Cond.code yX9_isCell cX9_isCell 2 (some .boolean), Cond.methodLink RX9 133 yX9_isHelper, Cond.instanceMethod yX9_isHelper, Cond.selects RX9 yX9_isHelper yX9_isHelper, Cond.code yX9_isHelper cX9_isHelper 2 (some .boolean)]
def wsX9_day_r3 : List Cond := [Cond.fieldLink RX9 84 "CappedRowModel" "helpers" "I", Cond.methodLink RX9 161 yX9_does, Cond.instanceMethod yX9_does, Cond.selects RX9 yX9_does yX9_does, Cond.code yX9_does cX9_does 13 (some .int), Cond.methodLink RX9 136 yX9_strengthOf, Cond.instanceMethod yX9_strengthOf, Cond.selects RX9 yX9_strengthOf yX9_strengthOf, Cond.code yX9_strengthOf cX9_strengthOf 2 (some .int), Cond.fieldLink RX9 29 "CappedRowModel" "kind" "[I", Cond.fieldLink RX9 32 "CappedRowModel" "pace" "[I", Cond.methodLink RX9 145 yX9_changed, Cond.instanceMethod yX9_changed, Cond.selects RX9 yX9_changed yX9_changed, Cond.code yX9_changed cX9_changed 6 (some .long), Cond.methodLink RX9 183 yX9_tellDay, Cond.instanceMethod yX9_tellDay, Cond.selects RX9 yX9_tellDay yX9_tellDay, Cond.code yX9_tellDay cX9_tellDay 3 (some .long), Cond.methodLink RX9 189 yX9_sumOf, Cond.instanceMethod yX9_sumOf, Cond.selects RX9 yX9_sumOf yX9_sumOf, Cond.code yX9_sumOf cX9_sumOf 6 (some .long), Cond.methodLink RX9 193 yX9_greatestOf]
def wsX9_day_r4 : List Cond := [Cond.instanceMethod yX9_greatestOf, Cond.selects RX9 yX9_greatestOf yX9_greatestOf, Cond.code yX9_greatestOf cX9_greatestOf 6 (some .long), Cond.methodLink RX9 196 yX9_leastOf, Cond.instanceMethod yX9_leastOf, Cond.selects RX9 yX9_leastOf yX9_leastOf, Cond.code yX9_leastOf cX9_leastOf 6 (some .long), Cond.methodLink RX9 199 yX9_greatestEver, Cond.instanceMethod yX9_greatestEver, Cond.selects RX9 yX9_greatestEver yX9_greatestEver, Cond.code yX9_greatestEver cX9_greatestEver 6 (some .long), Cond.methodLink RX9 186 yX9_putBack, Cond.instanceMethod yX9_putBack, Cond.selects RX9 yX9_putBack yX9_putBack, Cond.code yX9_putBack cX9_putBack 2 none]
def wsX9_day : List Cond := .code yX9_day cX9_day 11 (some .long) :: ((wsX9_day_r1 ++ (wsX9_day_r2 ++ (wsX9_day_r3 ++ wsX9_day_r4))) ++ wsX90)
def wsX9_manyGreatest : List Cond := .code yX9_manyGreatest cX9_manyGreatest 7 (some .int) :: ([.fieldLink RX9 19 "CappedRowModel" "numbers" "[J", .methodLink RX9 193 yX9_greatestOf, .instanceMethod yX9_greatestOf, .selects RX9 yX9_greatestOf yX9_greatestOf, .initialized RX9, .code yX9_greatestOf cX9_greatestOf 6 (some .long)] ++ wsX90)
def wsX9_secondOf : List Cond := .code yX9_secondOf cX9_secondOf 8 (some .long) :: ([.constantLong RX9 75 (-9223372036854775808), .fieldLink RX9 19 "CappedRowModel" "numbers" "[J", .methodLink RX9 193 yX9_greatestOf, .instanceMethod yX9_greatestOf, .selects RX9 yX9_greatestOf yX9_greatestOf, .initialized RX9, .code yX9_greatestOf cX9_greatestOf 6 (some .long)] ++ wsX90)
def wsX9_unlikeIn : List Cond := .code yX9_unlikeIn cX9_unlikeIn 7 (some .int) :: ([.fieldLink RX9 19 "CappedRowModel" "numbers" "[J"] ++ wsX90)
def wsX9_ask_r1 : List Cond := [Cond.constantLong RX9 75 (-9223372036854775808), Cond.fieldLink RX9 23 "CappedRowModel" "historic" "[J", Cond.methodLink RX9 142 yX9_isCell, Cond.instanceMethod yX9_isCell, Cond.selects RX9 yX9_isCell yX9_isCell, Cond.initialized RX9, Cond.code yX9_isCell cX9_isCell 2 (some .boolean), Cond.fieldLink RX9 81 "CappedRowModel" "many" "I", Cond.methodLink RX9 189 yX9_sumOf, Cond.instanceMethod yX9_sumOf, Cond.selects RX9 yX9_sumOf yX9_sumOf, Cond.code yX9_sumOf cX9_sumOf 6 (some .long), Cond.fieldLink RX9 19 "CappedRowModel" "numbers" "[J", Cond.methodLink RX9 193 yX9_greatestOf, Cond.instanceMethod yX9_greatestOf, Cond.selects RX9 yX9_greatestOf yX9_greatestOf, Cond.code yX9_greatestOf cX9_greatestOf 6 (some .long), Cond.methodLink RX9 196 yX9_leastOf, Cond.instanceMethod yX9_leastOf, Cond.selects RX9 yX9_leastOf yX9_leastOf, Cond.code yX9_leastOf cX9_leastOf 6 (some .long), Cond.methodLink RX9 202 yX9_manyGreatest, Cond.instanceMethod yX9_manyGreatest, Cond.selects RX9 yX9_manyGreatest yX9_manyGreatest]
def wsX9_ask_r2 : List Cond := [Cond.code yX9_manyGreatest cX9_manyGreatest 7 (some .int), Cond.methodLink RX9 205 yX9_secondOf, Cond.instanceMethod yX9_secondOf, Cond.selects RX9 yX9_secondOf yX9_secondOf, Cond.code yX9_secondOf cX9_secondOf 8 (some .long), Cond.methodLink RX9 208 yX9_unlikeIn, Cond.instanceMethod yX9_unlikeIn, Cond.selects RX9 yX9_unlikeIn yX9_unlikeIn, Cond.code yX9_unlikeIn cX9_unlikeIn 7 (some .int), Cond.methodLink RX9 199 yX9_greatestEver, Cond.instanceMethod yX9_greatestEver, Cond.selects RX9 yX9_greatestEver yX9_greatestEver, Cond.code yX9_greatestEver cX9_greatestEver 6 (some .long)]
def wsX9_ask : List Cond := .code yX9_ask cX9_ask 7 (some .long) :: ((wsX9_ask_r1 ++ wsX9_ask_r2) ++ wsX90)
def wsX9_findSpan : List Cond := .code yX9_findSpan cX9_findSpan 5 (some .boolean) :: ([.fieldLink RX9 81 "CappedRowModel" "many" "I", .fieldLink RX9 211 "CappedRowModel" "spanFirst" "I", .fieldLink RX9 214 "CappedRowModel" "spanLast" "I"] ++ wsX90)
def wsX9_ofSpan_r1 : List Cond := [Cond.constantLong RX9 75 (-9223372036854775808), Cond.fieldLink RX9 211 "CappedRowModel" "spanFirst" "I", Cond.fieldLink RX9 214 "CappedRowModel" "spanLast" "I", Cond.methodLink RX9 217 yX9_findSpan, Cond.instanceMethod yX9_findSpan, Cond.selects RX9 yX9_findSpan yX9_findSpan, Cond.initialized RX9, Cond.code yX9_findSpan cX9_findSpan 5 (some .boolean), Cond.fieldLink RX9 81 "CappedRowModel" "many" "I", Cond.methodLink RX9 193 yX9_greatestOf, Cond.instanceMethod yX9_greatestOf, Cond.selects RX9 yX9_greatestOf yX9_greatestOf, Cond.code yX9_greatestOf cX9_greatestOf 6 (some .long), Cond.fieldLink RX9 19 "CappedRowModel" "numbers" "[J", Cond.methodLink RX9 205 yX9_secondOf, Cond.instanceMethod yX9_secondOf, Cond.selects RX9 yX9_secondOf yX9_secondOf, Cond.code yX9_secondOf cX9_secondOf 8 (some .long), Cond.methodLink RX9 202 yX9_manyGreatest, Cond.instanceMethod yX9_manyGreatest, Cond.selects RX9 yX9_manyGreatest yX9_manyGreatest, Cond.code yX9_manyGreatest cX9_manyGreatest 7 (some .int), Cond.methodLink RX9 189 yX9_sumOf, Cond.instanceMethod yX9_sumOf]
def wsX9_ofSpan_r2 : List Cond := [Cond.selects RX9 yX9_sumOf yX9_sumOf, Cond.code yX9_sumOf cX9_sumOf 6 (some .long), Cond.methodLink RX9 208 yX9_unlikeIn, Cond.instanceMethod yX9_unlikeIn, Cond.selects RX9 yX9_unlikeIn yX9_unlikeIn, Cond.code yX9_unlikeIn cX9_unlikeIn 7 (some .int)]
def wsX9_ofSpan : List Cond := .code yX9_ofSpan cX9_ofSpan 3 (some .long) :: ((wsX9_ofSpan_r1 ++ wsX9_ofSpan_r2) ++ wsX90)
def wsX9_opens : List Cond := .code yX9_opens cX9_opens 9 (some .boolean) :: ([.fieldLink RX9 211 "CappedRowModel" "spanFirst" "I", .fieldLink RX9 214 "CappedRowModel" "spanLast" "I", .constantLong RX9 75 (-9223372036854775808), .methodLink RX9 193 yX9_greatestOf, .instanceMethod yX9_greatestOf, .selects RX9 yX9_greatestOf yX9_greatestOf, .initialized RX9, .code yX9_greatestOf cX9_greatestOf 6 (some .long), .fieldLink RX9 19 "CappedRowModel" "numbers" "[J", .methodLink RX9 205 yX9_secondOf, .instanceMethod yX9_secondOf, .selects RX9 yX9_secondOf yX9_secondOf, .code yX9_secondOf cX9_secondOf 8 (some .long)] ++ wsX90)
def wsX9_looks_r1 : List Cond := [Cond.constantLong RX9 149 (-1000000000000), Cond.constantLong RX9 151 (1000000000000), Cond.fieldLink RX9 62 "CappedRowModel" "lookedInto" "[I", Cond.methodLink RX9 142 yX9_isCell, Cond.instanceMethod yX9_isCell, Cond.selects RX9 yX9_isCell yX9_isCell, Cond.initialized RX9, Cond.code yX9_isCell cX9_isCell 2 (some .boolean), Cond.fieldLink RX9 81 "CappedRowModel" "many" "I", Cond.methodLink RX9 153 yX9_isBetween, Cond.static yX9_isBetween, Cond.code yX9_isBetween cX9_isBetween 6 (some .boolean), Cond.methodLink RX9 217 yX9_findSpan, Cond.instanceMethod yX9_findSpan, Cond.selects RX9 yX9_findSpan yX9_findSpan, Cond.code yX9_findSpan cX9_findSpan 5 (some .boolean), Cond.fieldLink RX9 211 "CappedRowModel" "spanFirst" "I", Cond.fieldLink RX9 214 "CappedRowModel" "spanLast" "I", Cond.methodLink RX9 220 yX9_opens, Cond.instanceMethod yX9_opens, Cond.selects RX9 yX9_opens yX9_opens, Cond.code yX9_opens cX9_opens 9 (some .boolean), Cond.constantLong RX9 75 (-9223372036854775808), Cond.methodLink RX9 193 yX9_greatestOf]
def wsX9_looks_r2 : List Cond := [Cond.instanceMethod yX9_greatestOf, Cond.selects RX9 yX9_greatestOf yX9_greatestOf, Cond.code yX9_greatestOf cX9_greatestOf 6 (some .long), Cond.fieldLink RX9 19 "CappedRowModel" "numbers" "[J", Cond.methodLink RX9 205 yX9_secondOf, Cond.instanceMethod yX9_secondOf, Cond.selects RX9 yX9_secondOf yX9_secondOf, Cond.code yX9_secondOf cX9_secondOf 8 (some .long)]
def wsX9_looks : List Cond := .code yX9_looks cX9_looks 7 (some .int) :: ((wsX9_looks_r1 ++ wsX9_looks_r2) ++ wsX90)
def wsX9_unlike : List Cond := .code yX9_unlike cX9_unlike 3 (some .int) :: ([.fieldLink RX9 81 "CappedRowModel" "many" "I", .fieldLink RX9 211 "CappedRowModel" "spanFirst" "I", .fieldLink RX9 214 "CappedRowModel" "spanLast" "I", .methodLink RX9 217 yX9_findSpan, .instanceMethod yX9_findSpan, .selects RX9 yX9_findSpan yX9_findSpan, .initialized RX9, .code yX9_findSpan cX9_findSpan 5 (some .boolean), .methodLink RX9 208 yX9_unlikeIn, .instanceMethod yX9_unlikeIn, .selects RX9 yX9_unlikeIn yX9_unlikeIn, .code yX9_unlikeIn cX9_unlikeIn 7 (some .int), .fieldLink RX9 19 "CappedRowModel" "numbers" "[J"] ++ wsX90)
def wsX9_reading : List Cond := .code yX9_reading cX9_reading 4 (some .int) :: ([.constantLong RX9 224 (-1000000000000000), .constantLong RX9 226 (1000000000000000), .fieldLink RX9 117 "CappedRowModel" "readings" "I", .fieldLink RX9 65 "CappedRowModel" "readCell" "[I", .fieldLink RX9 68 "CappedRowModel" "readNumber" "[J", .methodLink RX9 142 yX9_isCell, .instanceMethod yX9_isCell, .selects RX9 yX9_isCell yX9_isCell, .initialized RX9, .code yX9_isCell cX9_isCell 2 (some .boolean), .fieldLink RX9 81 "CappedRowModel" "many" "I", .methodLink RX9 153 yX9_isBetween, .static yX9_isBetween, .code yX9_isBetween cX9_isBetween 6 (some .boolean)] ++ wsX90)
def wsX9_back : List Cond := .code yX9_back cX9_back 2 (some .int) :: ([.fieldLink RX9 117 "CappedRowModel" "readings" "I", .methodLink RX9 77 yX9_within, .static yX9_within, .initialized RX9, .code yX9_within cX9_within 3 (some .boolean)] ++ wsX90)
def wsX9_areSo_r1 : List Cond := [Cond.fieldLink RX9 81 "CappedRowModel" "many" "I", Cond.fieldLink RX9 19 "CappedRowModel" "numbers" "[J", Cond.fieldLink RX9 26 "CappedRowModel" "base" "[J", Cond.fieldLink RX9 120 "CappedRowModel" "log" "I", Cond.fieldLink RX9 35 "CappedRowModel" "logSort" "[I", Cond.fieldLink RX9 38 "CappedRowModel" "logFrom" "[I", Cond.fieldLink RX9 41 "CappedRowModel" "logTo" "[I", Cond.fieldLink RX9 44 "CappedRowModel" "logNumber" "[J", Cond.fieldLink RX9 117 "CappedRowModel" "readings" "I", Cond.fieldLink RX9 65 "CappedRowModel" "readCell" "[I", Cond.fieldLink RX9 68 "CappedRowModel" "readNumber" "[J", Cond.methodLink RX9 176 yX9_keep, Cond.instanceMethod yX9_keep, Cond.selects RX9 yX9_keep yX9_keep, Cond.initialized RX9, Cond.code yX9_keep cX9_keep 2 none, Cond.fieldLink RX9 56 "CappedRowModel" "keptNumbers" "[J", Cond.fieldLink RX9 59 "CappedRowModel" "keptHistoric" "[J", Cond.fieldLink RX9 23 "CappedRowModel" "historic" "[J", Cond.methodLink RX9 161 yX9_does, Cond.instanceMethod yX9_does, Cond.selects RX9 yX9_does yX9_does, Cond.code yX9_does cX9_does 13 (some .int), Cond.methodLink RX9 136 yX9_strengthOf]
def wsX9_areSo_r2 : List Cond := [Cond.instanceMethod yX9_strengthOf, Cond.selects RX9 yX9_strengthOf yX9_strengthOf, Cond.code yX9_strengthOf cX9_strengthOf 2 (some .int), Cond.fieldLink RX9 29 "CappedRowModel" "kind" "[I", Cond.fieldLink RX9 32 "CappedRowModel" "pace" "[I", Cond.methodLink RX9 145 yX9_changed, Cond.instanceMethod yX9_changed, Cond.selects RX9 yX9_changed yX9_changed, Cond.code yX9_changed cX9_changed 6 (some .long), Cond.methodLink RX9 186 yX9_putBack, Cond.instanceMethod yX9_putBack, Cond.selects RX9 yX9_putBack yX9_putBack, Cond.code yX9_putBack cX9_putBack 2 none]
def wsX9_areSo : List Cond := .code yX9_areSo cX9_areSo 3 (some .boolean) :: ((wsX9_areSo_r1 ++ wsX9_areSo_r2) ++ wsX90)
def wsX9_kinds_r1 : List Cond := [Cond.fieldLink RX9 29 "CappedRowModel" "kind" "[I", Cond.methodLink RX9 133 yX9_isHelper, Cond.instanceMethod yX9_isHelper, Cond.selects RX9 yX9_isHelper yX9_isHelper, Cond.initialized RX9, Cond.code yX9_isHelper cX9_isHelper 2 (some .boolean), Cond.fieldLink RX9 84 "CappedRowModel" "helpers" "I", Cond.methodLink RX9 228 yX9_areSo, Cond.instanceMethod yX9_areSo, Cond.selects RX9 yX9_areSo yX9_areSo, Cond.code yX9_areSo cX9_areSo 3 (some .boolean), Cond.fieldLink RX9 81 "CappedRowModel" "many" "I", Cond.fieldLink RX9 19 "CappedRowModel" "numbers" "[J", Cond.fieldLink RX9 26 "CappedRowModel" "base" "[J", Cond.fieldLink RX9 120 "CappedRowModel" "log" "I", Cond.fieldLink RX9 35 "CappedRowModel" "logSort" "[I", Cond.fieldLink RX9 38 "CappedRowModel" "logFrom" "[I", Cond.fieldLink RX9 41 "CappedRowModel" "logTo" "[I", Cond.fieldLink RX9 44 "CappedRowModel" "logNumber" "[J", Cond.fieldLink RX9 117 "CappedRowModel" "readings" "I", Cond.fieldLink RX9 65 "CappedRowModel" "readCell" "[I", Cond.fieldLink RX9 68 "CappedRowModel" "readNumber" "[J", Cond.methodLink RX9 176 yX9_keep, Cond.instanceMethod yX9_keep]
def wsX9_kinds_r2 : List Cond := [Cond.selects RX9 yX9_keep yX9_keep, Cond.code yX9_keep cX9_keep 2 none, Cond.fieldLink RX9 56 "CappedRowModel" "keptNumbers" "[J", Cond.fieldLink RX9 59 "CappedRowModel" "keptHistoric" "[J", Cond.fieldLink RX9 23 "CappedRowModel" "historic" "[J", Cond.methodLink RX9 161 yX9_does, Cond.instanceMethod yX9_does, Cond.selects RX9 yX9_does yX9_does, Cond.code yX9_does cX9_does 13 (some .int), Cond.methodLink RX9 136 yX9_strengthOf, Cond.instanceMethod yX9_strengthOf, Cond.selects RX9 yX9_strengthOf yX9_strengthOf, Cond.code yX9_strengthOf cX9_strengthOf 2 (some .int), Cond.fieldLink RX9 32 "CappedRowModel" "pace" "[I", Cond.methodLink RX9 145 yX9_changed, Cond.instanceMethod yX9_changed, Cond.selects RX9 yX9_changed yX9_changed, Cond.code yX9_changed cX9_changed 6 (some .long), Cond.methodLink RX9 186 yX9_putBack, Cond.instanceMethod yX9_putBack, Cond.selects RX9 yX9_putBack yX9_putBack, Cond.code yX9_putBack cX9_putBack 2 none]
def wsX9_kinds : List Cond := .code yX9_kinds cX9_kinds 5 (some .int) :: ((wsX9_kinds_r1 ++ wsX9_kinds_r2) ++ wsX90)
def wsX9_paces_r1 : List Cond := [Cond.fieldLink RX9 32 "CappedRowModel" "pace" "[I", Cond.methodLink RX9 133 yX9_isHelper, Cond.instanceMethod yX9_isHelper, Cond.selects RX9 yX9_isHelper yX9_isHelper, Cond.initialized RX9, Cond.code yX9_isHelper cX9_isHelper 2 (some .boolean), Cond.fieldLink RX9 84 "CappedRowModel" "helpers" "I", Cond.methodLink RX9 228 yX9_areSo, Cond.instanceMethod yX9_areSo, Cond.selects RX9 yX9_areSo yX9_areSo, Cond.code yX9_areSo cX9_areSo 3 (some .boolean), Cond.fieldLink RX9 81 "CappedRowModel" "many" "I", Cond.fieldLink RX9 19 "CappedRowModel" "numbers" "[J", Cond.fieldLink RX9 26 "CappedRowModel" "base" "[J", Cond.fieldLink RX9 120 "CappedRowModel" "log" "I", Cond.fieldLink RX9 35 "CappedRowModel" "logSort" "[I", Cond.fieldLink RX9 38 "CappedRowModel" "logFrom" "[I", Cond.fieldLink RX9 41 "CappedRowModel" "logTo" "[I", Cond.fieldLink RX9 44 "CappedRowModel" "logNumber" "[J", Cond.fieldLink RX9 117 "CappedRowModel" "readings" "I", Cond.fieldLink RX9 65 "CappedRowModel" "readCell" "[I", Cond.fieldLink RX9 68 "CappedRowModel" "readNumber" "[J", Cond.methodLink RX9 176 yX9_keep, Cond.instanceMethod yX9_keep]
def wsX9_paces_r2 : List Cond := [Cond.selects RX9 yX9_keep yX9_keep, Cond.code yX9_keep cX9_keep 2 none, Cond.fieldLink RX9 56 "CappedRowModel" "keptNumbers" "[J", Cond.fieldLink RX9 59 "CappedRowModel" "keptHistoric" "[J", Cond.fieldLink RX9 23 "CappedRowModel" "historic" "[J", Cond.methodLink RX9 161 yX9_does, Cond.instanceMethod yX9_does, Cond.selects RX9 yX9_does yX9_does, Cond.code yX9_does cX9_does 13 (some .int), Cond.methodLink RX9 136 yX9_strengthOf, Cond.instanceMethod yX9_strengthOf, Cond.selects RX9 yX9_strengthOf yX9_strengthOf, Cond.code yX9_strengthOf cX9_strengthOf 2 (some .int), Cond.fieldLink RX9 29 "CappedRowModel" "kind" "[I", Cond.methodLink RX9 145 yX9_changed, Cond.instanceMethod yX9_changed, Cond.selects RX9 yX9_changed yX9_changed, Cond.code yX9_changed cX9_changed 6 (some .long), Cond.methodLink RX9 186 yX9_putBack, Cond.instanceMethod yX9_putBack, Cond.selects RX9 yX9_putBack yX9_putBack, Cond.code yX9_putBack cX9_putBack 2 none]
def wsX9_paces : List Cond := .code yX9_paces cX9_paces 5 (some .int) :: ((wsX9_paces_r1 ++ wsX9_paces_r2) ++ wsX90)
def wsX9_inLeastTerms : List Cond := .code yX9_inLeastTerms cX9_inLeastTerms 11 (some .long) :: ([])
def wsX9_odds : List Cond := .code yX9_odds cX9_odds 8 (some .long) :: ([.constantLong RX9 75 (-9223372036854775808), .fieldLink RX9 19 "CappedRowModel" "numbers" "[J", .methodLink RX9 142 yX9_isCell, .instanceMethod yX9_isCell, .selects RX9 yX9_isCell yX9_isCell, .initialized RX9, .code yX9_isCell cX9_isCell 2 (some .boolean), .fieldLink RX9 81 "CappedRowModel" "many" "I", .methodLink RX9 77 yX9_within, .static yX9_within, .code yX9_within cX9_within 3 (some .boolean), .methodLink RX9 232 yX9_inLeastTerms, .static yX9_inLeastTerms, .code yX9_inLeastTerms cX9_inLeastTerms 11 (some .long)] ++ wsX90)
def wsX9_sheet : List Cond := .code yX9_sheet cX9_sheet 5 (some .int) :: ([.fieldLink RX9 71 "CappedRowModel" "fault" "I", .fieldLink RX9 9 "CappedRowModel" "sorts" "[I", .fieldLink RX9 13 "CappedRowModel" "sheetLong" "[I", .fieldLink RX9 16 "CappedRowModel" "cells" "[I", .methodLink RX9 90 yX9_isSheet, .static yX9_isSheet, .initialized RX9, .code yX9_isSheet cX9_isSheet 1 (some .boolean), .methodLink RX9 77 yX9_within, .static yX9_within, .code yX9_within cX9_within 3 (some .boolean), .methodLink RX9 94 yX9_isSort, .static yX9_isSort, .code yX9_isSort cX9_isSort 1 (some .boolean), .methodLink RX9 101 yX9_fails, .instanceMethod yX9_fails, .selects RX9 yX9_fails yX9_fails, .code yX9_fails cX9_fails 2 (some .int)] ++ wsX90)
def wsX9_lose : List Cond := .code yX9_lose cX9_lose 3 (some .int) :: ([.fieldLink RX9 9 "CappedRowModel" "sorts" "[I", .methodLink RX9 90 yX9_isSheet, .static yX9_isSheet, .initialized RX9, .code yX9_isSheet cX9_isSheet 1 (some .boolean), .methodLink RX9 77 yX9_within, .static yX9_within, .code yX9_within cX9_within 3 (some .boolean)] ++ wsX90)
def wsX9_put : List Cond := .code yX9_put cX9_put 4 (some .int) :: ([.fieldLink RX9 71 "CappedRowModel" "fault" "I", .fieldLink RX9 9 "CappedRowModel" "sorts" "[I", .fieldLink RX9 13 "CappedRowModel" "sheetLong" "[I", .fieldLink RX9 16 "CappedRowModel" "cells" "[I", .methodLink RX9 90 yX9_isSheet, .static yX9_isSheet, .initialized RX9, .code yX9_isSheet cX9_isSheet 1 (some .boolean), .methodLink RX9 77 yX9_within, .static yX9_within, .code yX9_within cX9_within 3 (some .boolean), .methodLink RX9 101 yX9_fails, .instanceMethod yX9_fails, .selects RX9 yX9_fails yX9_fails, .code yX9_fails cX9_fails 2 (some .int)] ++ wsX90)
def wsX9_cell : List Cond := .code yX9_cell cX9_cell 4 (some .long) :: ([.fieldLink RX9 71 "CappedRowModel" "fault" "I", .constantLong RX9 75 (-9223372036854775808), .fieldLink RX9 9 "CappedRowModel" "sorts" "[I", .fieldLink RX9 13 "CappedRowModel" "sheetLong" "[I", .fieldLink RX9 16 "CappedRowModel" "cells" "[I", .methodLink RX9 90 yX9_isSheet, .static yX9_isSheet, .initialized RX9, .code yX9_isSheet cX9_isSheet 1 (some .boolean), .methodLink RX9 77 yX9_within, .static yX9_within, .code yX9_within cX9_within 3 (some .boolean), .methodLink RX9 94 yX9_isSort, .static yX9_isSort, .code yX9_isSort cX9_isSort 1 (some .boolean), .methodLink RX9 172 yX9_lost, .instanceMethod yX9_lost, .selects RX9 yX9_lost yX9_lost, .code yX9_lost cX9_lost 2 (some .long)] ++ wsX90)
def wsX9_copy : List Cond := .code yX9_copy cX9_copy 10 (some .int) :: ([.fieldLink RX9 71 "CappedRowModel" "fault" "I", .fieldLink RX9 9 "CappedRowModel" "sorts" "[I", .fieldLink RX9 13 "CappedRowModel" "sheetLong" "[I", .fieldLink RX9 16 "CappedRowModel" "cells" "[I", .methodLink RX9 90 yX9_isSheet, .static yX9_isSheet, .initialized RX9, .code yX9_isSheet cX9_isSheet 1 (some .boolean), .methodLink RX9 77 yX9_within, .static yX9_within, .code yX9_within cX9_within 3 (some .boolean), .methodLink RX9 101 yX9_fails, .instanceMethod yX9_fails, .selects RX9 yX9_fails yX9_fails, .code yX9_fails cX9_fails 2 (some .int)] ++ wsX90)
def wsX9_leaves : List Cond := .code yX9_leaves cX9_leaves 2 none :: ([.fieldLink RX9 236 "CappedRowModel" "trace" "I"] ++ wsX90)
def wsX9_tell : List Cond := .code yX9_tell cX9_tell 3 (some .int) :: ([.fieldLink RX9 32 "CappedRowModel" "pace" "[I", .fieldLink RX9 29 "CappedRowModel" "kind" "[I", .methodLink RX9 133 yX9_isHelper, .instanceMethod yX9_isHelper, .selects RX9 yX9_isHelper yX9_isHelper, .initialized RX9, .code yX9_isHelper cX9_isHelper 2 (some .boolean), .fieldLink RX9 84 "CappedRowModel" "helpers" "I", .methodLink RX9 239 yX9_leaves, .instanceMethod yX9_leaves, .selects RX9 yX9_leaves yX9_leaves, .code yX9_leaves cX9_leaves 2 none, .fieldLink RX9 236 "CappedRowModel" "trace" "I"] ++ wsX90)
def wsX9_cheer : List Cond := .code yX9_cheer cX9_cheer 2 (some .int) :: ([.fieldLink RX9 29 "CappedRowModel" "kind" "[I", .methodLink RX9 133 yX9_isHelper, .instanceMethod yX9_isHelper, .selects RX9 yX9_isHelper yX9_isHelper, .initialized RX9, .code yX9_isHelper cX9_isHelper 2 (some .boolean), .fieldLink RX9 84 "CappedRowModel" "helpers" "I", .methodLink RX9 239 yX9_leaves, .instanceMethod yX9_leaves, .selects RX9 yX9_leaves yX9_leaves, .code yX9_leaves cX9_leaves 2 none, .fieldLink RX9 236 "CappedRowModel" "trace" "I"] ++ wsX90)
def wsX9_as : List Cond := .code yX9_as cX9_as 3 (some .int) :: ([.fieldLink RX9 71 "CappedRowModel" "fault" "I", .fieldLink RX9 29 "CappedRowModel" "kind" "[I", .methodLink RX9 133 yX9_isHelper, .instanceMethod yX9_isHelper, .selects RX9 yX9_isHelper yX9_isHelper, .initialized RX9, .code yX9_isHelper cX9_isHelper 2 (some .boolean), .fieldLink RX9 84 "CappedRowModel" "helpers" "I", .methodLink RX9 77 yX9_within, .static yX9_within, .code yX9_within cX9_within 3 (some .boolean), .methodLink RX9 101 yX9_fails, .instanceMethod yX9_fails, .selects RX9 yX9_fails yX9_fails, .code yX9_fails cX9_fails 2 (some .int)] ++ wsX90)
def wsX9_trace : List Cond := .code yX9_trace cX9_trace 1 (some .int) :: ([.fieldLink RX9 236 "CappedRowModel" "trace" "I"] ++ wsX90)
def wsX9_fault : List Cond := .code yX9_fault cX9_fault 1 (some .int) :: ([.fieldLink RX9 71 "CappedRowModel" "fault" "I"] ++ wsX90)
def wsX9_many : List Cond := .code yX9_many cX9_many 2 (some .int) :: ([.fieldLink RX9 81 "CappedRowModel" "many" "I", .fieldLink RX9 84 "CappedRowModel" "helpers" "I", .fieldLink RX9 120 "CappedRowModel" "log" "I", .fieldLink RX9 117 "CappedRowModel" "readings" "I"] ++ wsX90)
def wsJ9_max_f86c9 : List Cond := .code yJ9_max_f86c9 cJ9_max_f86c9 4 (some .long) :: ([])
def wsJ9_min_f86c9 : List Cond := .code yJ9_min_f86c9 cJ9_min_f86c9 4 (some .long) :: ([])
abbrev vwCl : List vw_C := [(RX0, TX0, 4), (RX1, TX1, 3), (RX2, TX2, 2), (RX3, TX3, 3), (RX4, TX4, 3), (RX5, TX5, 4), (RX6, TX6, 2), (RX7, TX7, 3), (RX8, TX8, 13), (RX9, TX9, 31)]
end
section
theorem dX0_init_0 : decode cX0_init 0 = .ok (.aload_n 0, 1) := by decide +kernel
theorem dX0_init_1 : decode cX0_init 1 = .ok (.invokespecial 3, 3) := by decide +kernel
theorem dX0_init_4 : decode cX0_init 4 = .ok (.aload_n 0, 1) := by decide +kernel
theorem dX0_init_5 : decode cX0_init 5 = .ok (.iconst 0, 1) := by decide +kernel
theorem dX0_init_6 : decode cX0_init 6 = .ok (.putfield 9, 3) := by decide +kernel
theorem dX0_init_9 : decode cX0_init 9 = .ok (.aload_n 0, 1) := by decide +kernel
theorem dX0_init_10 : decode cX0_init 10 = .ok (.iconst 0, 1) := by decide +kernel
theorem dX0_init_11 : decode cX0_init 11 = .ok (.putfield 15, 3) := by decide +kernel
theorem dX0_init_14 : decode cX0_init 14 = .ok (.aload_n 0, 1) := by decide +kernel
theorem dX0_init_15 : decode cX0_init 15 = .ok (.iconst 0, 1) := by decide +kernel
theorem dX0_init_16 : decode cX0_init 16 = .ok (.putfield 18, 3) := by decide +kernel
theorem dX0_init_19 : decode cX0_init 19 = .ok (.aload_n 0, 1) := by decide +kernel
theorem dX0_init_20 : decode cX0_init 20 = .ok (.lconst 0, 1) := by decide +kernel
theorem dX0_init_21 : decode cX0_init 21 = .ok (.putfield 21, 3) := by decide +kernel
theorem dX0_init_24 : decode cX0_init 24 = .ok (.return_, 1) := by decide +kernel
theorem dX0_become_0 : decode cX0_become 0 = .ok (.aload_n 0, 1) := by decide +kernel
theorem dX0_become_1 : decode cX0_become 1 = .ok (.iload_n 1, 1) := by decide +kernel
theorem dX0_become_2 : decode cX0_become 2 = .ok (.putfield 9, 3) := by decide +kernel
theorem dX0_become_5 : decode cX0_become 5 = .ok (.aload_n 0, 1) := by decide +kernel
theorem dX0_become_6 : decode cX0_become 6 = .ok (.iload_n 2, 1) := by decide +kernel
theorem dX0_become_7 : decode cX0_become 7 = .ok (.putfield 15, 3) := by decide +kernel
theorem dX0_become_10 : decode cX0_become 10 = .ok (.aload_n 0, 1) := by decide +kernel
theorem dX0_become_11 : decode cX0_become 11 = .ok (.iload_n 3, 1) := by decide +kernel
theorem dX0_become_12 : decode cX0_become 12 = .ok (.putfield 18, 3) := by decide +kernel
theorem dX0_become_15 : decode cX0_become 15 = .ok (.aload_n 0, 1) := by decide +kernel
theorem dX0_become_16 : decode cX0_become 16 = .ok (.lload 4, 2) := by decide +kernel
theorem dX0_become_18 : decode cX0_become 18 = .ok (.putfield 21, 3) := by decide +kernel
theorem dX0_become_21 : decode cX0_become 21 = .ok (.return_, 1) := by decide +kernel
theorem dX0_isHelp_0 : decode cX0_isHelp 0 = .ok (.aload_n 0, 1) := by decide +kernel
theorem dX0_isHelp_1 : decode cX0_isHelp 1 = .ok (.getfield 9, 3) := by decide +kernel
theorem dX0_isHelp_4 : decode cX0_isHelp 4 = .ok (.iconst 3, 1) := by decide +kernel
theorem dX0_isHelp_5 : decode cX0_isHelp 5 = .ok (.if_icmp .eq 11, 3) := by decide +kernel
theorem dX0_isHelp_8 : decode cX0_isHelp 8 = .ok (.aload_n 0, 1) := by decide +kernel
theorem dX0_isHelp_9 : decode cX0_isHelp 9 = .ok (.getfield 9, 3) := by decide +kernel
theorem dX0_isHelp_12 : decode cX0_isHelp 12 = .ok (.iconst 4, 1) := by decide +kernel
theorem dX0_isHelp_13 : decode cX0_isHelp 13 = .ok (.if_icmp .ne 7, 3) := by decide +kernel
theorem dX0_isHelp_16 : decode cX0_isHelp 16 = .ok (.iconst 1, 1) := by decide +kernel
theorem dX0_isHelp_17 : decode cX0_isHelp 17 = .ok (.goto 4, 3) := by decide +kernel
theorem dX0_isHelp_20 : decode cX0_isHelp 20 = .ok (.iconst 0, 1) := by decide +kernel
theorem dX0_isHelp_21 : decode cX0_isHelp 21 = .ok (.ireturn, 1) := by decide +kernel
set_option maxRecDepth 20000 in
theorem ggX0_amount_X1_strength : GoodIn wsX0_amount wsX1_strength := goodIn_r _ [7, 8, 9, 10, 11, 12, 6, 13, 14, 19, 20, 21] (by decide +kernel) (by decide +kernel)
set_option maxRecDepth 20000 in
theorem gX0_amount_X1_strength : GoodIn wsX0_amount (wsV RX0 25 RX1 yX1_strength wsX1_strength) := goodIn_app (goodIn_of _ (by decide +kernel)) ggX0_amount_X1_strength
theorem dX0_amount_0 : decode cX0_amount 0 = .ok (.aload_n 0, 1) := by decide +kernel
theorem dX0_amount_1 : decode cX0_amount 1 = .ok (.getfield 9, 3) := by decide +kernel
theorem dX0_amount_4 : decode cX0_amount 4 = .ok (.lookupswitch 49 #[(3, 28), (4, 38)], 28) := by decide +kernel
theorem dX0_amount_32 : decode cX0_amount 32 = .ok (.aload_n 1, 1) := by decide +kernel
theorem dX0_amount_33 : decode cX0_amount 33 = .ok (.aload_n 0, 1) := by decide +kernel
theorem dX0_amount_34 : decode cX0_amount 34 = .ok (.getfield 21, 3) := by decide +kernel
theorem dX0_amount_37 : decode cX0_amount 37 = .ok (.invokevirtual 25, 3) := by decide +kernel
theorem dX0_amount_40 : decode cX0_amount 40 = .ok (.i2l, 1) := by decide +kernel
theorem dX0_amount_41 : decode cX0_amount 41 = .ok (.lreturn, 1) := by decide +kernel
theorem dX0_amount_42 : decode cX0_amount 42 = .ok (.aload_n 1, 1) := by decide +kernel
theorem dX0_amount_43 : decode cX0_amount 43 = .ok (.aload_n 0, 1) := by decide +kernel
theorem dX0_amount_44 : decode cX0_amount 44 = .ok (.getfield 21, 3) := by decide +kernel
theorem dX0_amount_47 : decode cX0_amount 47 = .ok (.invokevirtual 25, 3) := by decide +kernel
theorem dX0_amount_50 : decode cX0_amount 50 = .ok (.ineg, 1) := by decide +kernel
theorem dX0_amount_51 : decode cX0_amount 51 = .ok (.i2l, 1) := by decide +kernel
theorem dX0_amount_52 : decode cX0_amount 52 = .ok (.lreturn, 1) := by decide +kernel
theorem dX0_amount_53 : decode cX0_amount 53 = .ok (.aload_n 0, 1) := by decide +kernel
theorem dX0_amount_54 : decode cX0_amount 54 = .ok (.getfield 21, 3) := by decide +kernel
theorem dX0_amount_57 : decode cX0_amount 57 = .ok (.lreturn, 1) := by decide +kernel
theorem dX1_init_0 : decode cX1_init 0 = .ok (.aload_n 0, 1) := by decide +kernel
theorem dX1_init_1 : decode cX1_init 1 = .ok (.invokespecial 3, 3) := by decide +kernel
theorem dX1_init_4 : decode cX1_init 4 = .ok (.aload_n 0, 1) := by decide +kernel
theorem dX1_init_5 : decode cX1_init 5 = .ok (.iconst 0, 1) := by decide +kernel
theorem dX1_init_6 : decode cX1_init 6 = .ok (.putfield 9, 3) := by decide +kernel
theorem dX1_init_9 : decode cX1_init 9 = .ok (.aload_n 0, 1) := by decide +kernel
theorem dX1_init_10 : decode cX1_init 10 = .ok (.iconst 3, 1) := by decide +kernel
theorem dX1_init_11 : decode cX1_init 11 = .ok (.newarray .int, 2) := by decide +kernel
theorem dX1_init_13 : decode cX1_init 13 = .ok (.putfield 15, 3) := by decide +kernel
theorem dX1_init_16 : decode cX1_init 16 = .ok (.aload_n 0, 1) := by decide +kernel
theorem dX1_init_17 : decode cX1_init 17 = .ok (.iconst 3, 1) := by decide +kernel
theorem dX1_init_18 : decode cX1_init 18 = .ok (.newarray .int, 2) := by decide +kernel
theorem dX1_init_20 : decode cX1_init 20 = .ok (.putfield 19, 3) := by decide +kernel
theorem dX1_init_23 : decode cX1_init 23 = .ok (.return_, 1) := by decide +kernel
theorem dX1_has_0 : decode cX1_has 0 = .ok (.lload_n 1, 1) := by decide +kernel
theorem dX1_has_1 : decode cX1_has 1 = .ok (.lconst 0, 1) := by decide +kernel
theorem dX1_has_2 : decode cX1_has 2 = .ok (.lcmp, 1) := by decide +kernel
theorem dX1_has_3 : decode cX1_has 3 = .ok (.ifCond .lt 17, 3) := by decide +kernel
theorem dX1_has_6 : decode cX1_has 6 = .ok (.lload_n 1, 1) := by decide +kernel
theorem dX1_has_7 : decode cX1_has 7 = .ok (.aload_n 0, 1) := by decide +kernel
theorem dX1_has_8 : decode cX1_has 8 = .ok (.getfield 9, 3) := by decide +kernel
theorem dX1_has_11 : decode cX1_has 11 = .ok (.i2l, 1) := by decide +kernel
theorem dX1_has_12 : decode cX1_has 12 = .ok (.lcmp, 1) := by decide +kernel
theorem dX1_has_13 : decode cX1_has 13 = .ok (.ifCond .ge 7, 3) := by decide +kernel
theorem dX1_has_16 : decode cX1_has 16 = .ok (.iconst 1, 1) := by decide +kernel
theorem dX1_has_17 : decode cX1_has 17 = .ok (.goto 4, 3) := by decide +kernel
theorem dX1_has_20 : decode cX1_has 20 = .ok (.iconst 0, 1) := by decide +kernel
theorem dX1_has_21 : decode cX1_has 21 = .ok (.ireturn, 1) := by decide +kernel
theorem dX1_join_0 : decode cX1_join 0 = .ok (.aload_n 0, 1) := by decide +kernel
theorem dX1_join_1 : decode cX1_join 1 = .ok (.getfield 9, 3) := by decide +kernel
theorem dX1_join_4 : decode cX1_join 4 = .ok (.iconst 3, 1) := by decide +kernel
theorem dX1_join_5 : decode cX1_join 5 = .ok (.if_icmp .ge 33, 3) := by decide +kernel
theorem dX1_join_8 : decode cX1_join 8 = .ok (.aload_n 0, 1) := by decide +kernel
theorem dX1_join_9 : decode cX1_join 9 = .ok (.getfield 15, 3) := by decide +kernel
theorem dX1_join_12 : decode cX1_join 12 = .ok (.aload_n 0, 1) := by decide +kernel
theorem dX1_join_13 : decode cX1_join 13 = .ok (.getfield 9, 3) := by decide +kernel
theorem dX1_join_16 : decode cX1_join 16 = .ok (.iload_n 1, 1) := by decide +kernel
theorem dX1_join_17 : decode cX1_join 17 = .ok (.iastore, 1) := by decide +kernel
theorem dX1_join_18 : decode cX1_join 18 = .ok (.aload_n 0, 1) := by decide +kernel
theorem dX1_join_19 : decode cX1_join 19 = .ok (.getfield 19, 3) := by decide +kernel
theorem dX1_join_22 : decode cX1_join 22 = .ok (.aload_n 0, 1) := by decide +kernel
theorem dX1_join_23 : decode cX1_join 23 = .ok (.getfield 9, 3) := by decide +kernel
theorem dX1_join_26 : decode cX1_join 26 = .ok (.iload_n 2, 1) := by decide +kernel
theorem dX1_join_27 : decode cX1_join 27 = .ok (.iastore, 1) := by decide +kernel
theorem dX1_join_28 : decode cX1_join 28 = .ok (.aload_n 0, 1) := by decide +kernel
theorem dX1_join_29 : decode cX1_join 29 = .ok (.dup, 1) := by decide +kernel
theorem dX1_join_30 : decode cX1_join 30 = .ok (.getfield 9, 3) := by decide +kernel
theorem dX1_join_33 : decode cX1_join 33 = .ok (.iconst 1, 1) := by decide +kernel
theorem dX1_join_34 : decode cX1_join 34 = .ok (.iadd, 1) := by decide +kernel
theorem dX1_join_35 : decode cX1_join 35 = .ok (.putfield 9, 3) := by decide +kernel
theorem dX1_join_38 : decode cX1_join 38 = .ok (.return_, 1) := by decide +kernel
theorem dX1_becomeLike_0 : decode cX1_becomeLike 0 = .ok (.aload_n 0, 1) := by decide +kernel
theorem dX1_becomeLike_1 : decode cX1_becomeLike 1 = .ok (.aload_n 1, 1) := by decide +kernel
theorem dX1_becomeLike_2 : decode cX1_becomeLike 2 = .ok (.getfield 9, 3) := by decide +kernel
theorem dX1_becomeLike_5 : decode cX1_becomeLike 5 = .ok (.putfield 9, 3) := by decide +kernel
theorem dX1_becomeLike_8 : decode cX1_becomeLike 8 = .ok (.aload_n 1, 1) := by decide +kernel
theorem dX1_becomeLike_9 : decode cX1_becomeLike 9 = .ok (.getfield 15, 3) := by decide +kernel
theorem dX1_becomeLike_12 : decode cX1_becomeLike 12 = .ok (.iconst 0, 1) := by decide +kernel
theorem dX1_becomeLike_13 : decode cX1_becomeLike 13 = .ok (.aload_n 0, 1) := by decide +kernel
theorem dX1_becomeLike_14 : decode cX1_becomeLike 14 = .ok (.getfield 15, 3) := by decide +kernel
theorem dX1_becomeLike_17 : decode cX1_becomeLike 17 = .ok (.iconst 0, 1) := by decide +kernel
theorem dX1_becomeLike_18 : decode cX1_becomeLike 18 = .ok (.iconst 3, 1) := by decide +kernel
theorem dX1_becomeLike_19 : decode cX1_becomeLike 19 = .ok (.invokestatic 22, 3) := by decide +kernel
theorem dX1_becomeLike_22 : decode cX1_becomeLike 22 = .ok (.aload_n 1, 1) := by decide +kernel
theorem dX1_becomeLike_23 : decode cX1_becomeLike 23 = .ok (.getfield 19, 3) := by decide +kernel
theorem dX1_becomeLike_26 : decode cX1_becomeLike 26 = .ok (.iconst 0, 1) := by decide +kernel
theorem dX1_becomeLike_27 : decode cX1_becomeLike 27 = .ok (.aload_n 0, 1) := by decide +kernel
theorem dX1_becomeLike_28 : decode cX1_becomeLike 28 = .ok (.getfield 19, 3) := by decide +kernel
theorem dX1_becomeLike_31 : decode cX1_becomeLike 31 = .ok (.iconst 0, 1) := by decide +kernel
theorem dX1_becomeLike_32 : decode cX1_becomeLike 32 = .ok (.iconst 3, 1) := by decide +kernel
theorem dX1_becomeLike_33 : decode cX1_becomeLike 33 = .ok (.invokestatic 22, 3) := by decide +kernel
theorem dX1_becomeLike_36 : decode cX1_becomeLike 36 = .ok (.return_, 1) := by decide +kernel
set_option maxRecDepth 20000 in
theorem ggX1_strength_X1_has : GoodIn wsX1_strength wsX1_has := goodIn_r _ [7, 8, 9, 10, 11] (by decide +kernel) (by decide +kernel)
set_option maxRecDepth 20000 in
theorem gX1_strength_X1_has : GoodIn wsX1_strength (wsV RX1 28 RX1 yX1_has wsX1_has) := goodIn_app (goodIn_of _ (by decide +kernel)) ggX1_strength_X1_has
theorem dX1_strength_0 : decode cX1_strength 0 = .ok (.aload_n 0, 1) := by decide +kernel
theorem dX1_strength_1 : decode cX1_strength 1 = .ok (.lload_n 1, 1) := by decide +kernel
theorem dX1_strength_2 : decode cX1_strength 2 = .ok (.invokevirtual 28, 3) := by decide +kernel
theorem dX1_strength_5 : decode cX1_strength 5 = .ok (.ifCond .ne 5, 3) := by decide +kernel
theorem dX1_strength_8 : decode cX1_strength 8 = .ok (.iconst 0, 1) := by decide +kernel
theorem dX1_strength_9 : decode cX1_strength 9 = .ok (.ireturn, 1) := by decide +kernel
theorem dX1_strength_10 : decode cX1_strength 10 = .ok (.aload_n 0, 1) := by decide +kernel
theorem dX1_strength_11 : decode cX1_strength 11 = .ok (.getfield 19, 3) := by decide +kernel
theorem dX1_strength_14 : decode cX1_strength 14 = .ok (.lload_n 1, 1) := by decide +kernel
theorem dX1_strength_15 : decode cX1_strength 15 = .ok (.l2i, 1) := by decide +kernel
theorem dX1_strength_16 : decode cX1_strength 16 = .ok (.iaload, 1) := by decide +kernel
theorem dX1_strength_17 : decode cX1_strength 17 = .ok (.istore_n 3, 1) := by decide +kernel
theorem dX1_strength_18 : decode cX1_strength 18 = .ok (.aload_n 0, 1) := by decide +kernel
theorem dX1_strength_19 : decode cX1_strength 19 = .ok (.getfield 15, 3) := by decide +kernel
theorem dX1_strength_22 : decode cX1_strength 22 = .ok (.lload_n 1, 1) := by decide +kernel
theorem dX1_strength_23 : decode cX1_strength 23 = .ok (.l2i, 1) := by decide +kernel
theorem dX1_strength_24 : decode cX1_strength 24 = .ok (.iaload, 1) := by decide +kernel
theorem dX1_strength_25 : decode cX1_strength 25 = .ok (.lookupswitch 35 #[(1, 27), (2, 31)], 27) := by decide +kernel
theorem dX1_strength_52 : decode cX1_strength 52 = .ok (.iload_n 3, 1) := by decide +kernel
theorem dX1_strength_53 : decode cX1_strength 53 = .ok (.iconst 1, 1) := by decide +kernel
theorem dX1_strength_54 : decode cX1_strength 54 = .ok (.iadd, 1) := by decide +kernel
theorem dX1_strength_55 : decode cX1_strength 55 = .ok (.ireturn, 1) := by decide +kernel
theorem dX1_strength_56 : decode cX1_strength 56 = .ok (.iconst 2, 1) := by decide +kernel
theorem dX1_strength_57 : decode cX1_strength 57 = .ok (.iload_n 3, 1) := by decide +kernel
theorem dX1_strength_58 : decode cX1_strength 58 = .ok (.imul, 1) := by decide +kernel
theorem dX1_strength_59 : decode cX1_strength 59 = .ok (.ireturn, 1) := by decide +kernel
theorem dX1_strength_60 : decode cX1_strength 60 = .ok (.iload_n 3, 1) := by decide +kernel
theorem dX1_strength_61 : decode cX1_strength 61 = .ok (.ireturn, 1) := by decide +kernel
set_option maxRecDepth 20000 in
theorem ggX2_init_X0_init : GoodIn wsX2_init wsX0_init := goodIn_r _ [10, 11, 2, 3, 12, 13, 14, 15, 18, 19, 20, 21] (by decide +kernel) (by decide +kernel)
set_option maxRecDepth 20000 in
theorem gX2_init_X0_init_n21 : GoodIn wsX2_init (wsX0_init) := ggX2_init_X0_init
theorem dX2_init_0 : decode cX2_init 0 = .ok (.aload_n 0, 1) := by decide +kernel
theorem dX2_init_1 : decode cX2_init 1 = .ok (.invokespecial 3, 3) := by decide +kernel
theorem dX2_init_4 : decode cX2_init 4 = .ok (.aload_n 0, 1) := by decide +kernel
theorem dX2_init_5 : decode cX2_init 5 = .ok (.iconst 0, 1) := by decide +kernel
theorem dX2_init_6 : decode cX2_init 6 = .ok (.putfield 9, 3) := by decide +kernel
theorem dX2_init_9 : decode cX2_init 9 = .ok (.aload_n 0, 1) := by decide +kernel
theorem dX2_init_10 : decode cX2_init 10 = .ok (.bipush 24, 2) := by decide +kernel
theorem dX2_init_12 : decode cX2_init 12 = .ok (.anewarray 15, 3) := by decide +kernel
theorem dX2_init_15 : decode cX2_init 15 = .ok (.putfield 17, 3) := by decide +kernel
theorem dX2_init_18 : decode cX2_init 18 = .ok (.iconst 0, 1) := by decide +kernel
theorem dX2_init_19 : decode cX2_init 19 = .ok (.istore_n 1, 1) := by decide +kernel
theorem dX2_init_20 : decode cX2_init 20 = .ok (.iload_n 1, 1) := by decide +kernel
theorem dX2_init_21 : decode cX2_init 21 = .ok (.bipush 24, 2) := by decide +kernel
theorem dX2_init_23 : decode cX2_init 23 = .ok (.if_icmp .ge 22, 3) := by decide +kernel
theorem dX2_init_26 : decode cX2_init 26 = .ok (.aload_n 0, 1) := by decide +kernel
theorem dX2_init_27 : decode cX2_init 27 = .ok (.getfield 17, 3) := by decide +kernel
theorem dX2_init_30 : decode cX2_init 30 = .ok (.iload_n 1, 1) := by decide +kernel
theorem dX2_init_31 : decode cX2_init 31 = .ok (.new 15, 3) := by decide +kernel
theorem dX2_init_34 : decode cX2_init 34 = .ok (.dup, 1) := by decide +kernel
theorem dX2_init_35 : decode cX2_init 35 = .ok (.invokespecial 21, 3) := by decide +kernel
theorem dX2_init_38 : decode cX2_init 38 = .ok (.aastore, 1) := by decide +kernel
theorem dX2_init_39 : decode cX2_init 39 = .ok (.iinc 1 1, 3) := by decide +kernel
theorem dX2_init_42 : decode cX2_init 42 = .ok (.goto (-22), 3) := by decide +kernel
theorem dX2_init_45 : decode cX2_init 45 = .ok (.return_, 1) := by decide +kernel
theorem dX2_next_0 : decode cX2_next 0 = .ok (.aload_n 0, 1) := by decide +kernel
theorem dX2_next_1 : decode cX2_next 1 = .ok (.getfield 9, 3) := by decide +kernel
theorem dX2_next_4 : decode cX2_next 4 = .ok (.bipush 24, 2) := by decide +kernel
theorem dX2_next_6 : decode cX2_next 6 = .ok (.if_icmp .lt 5, 3) := by decide +kernel
theorem dX2_next_9 : decode cX2_next 9 = .ok (.aconst_null, 1) := by decide +kernel
theorem dX2_next_10 : decode cX2_next 10 = .ok (.areturn, 1) := by decide +kernel
theorem dX2_next_11 : decode cX2_next 11 = .ok (.aload_n 0, 1) := by decide +kernel
theorem dX2_next_12 : decode cX2_next 12 = .ok (.dup, 1) := by decide +kernel
theorem dX2_next_13 : decode cX2_next 13 = .ok (.getfield 9, 3) := by decide +kernel
theorem dX2_next_16 : decode cX2_next 16 = .ok (.iconst 1, 1) := by decide +kernel
theorem dX2_next_17 : decode cX2_next 17 = .ok (.iadd, 1) := by decide +kernel
theorem dX2_next_18 : decode cX2_next 18 = .ok (.putfield 9, 3) := by decide +kernel
theorem dX2_next_21 : decode cX2_next 21 = .ok (.aload_n 0, 1) := by decide +kernel
theorem dX2_next_22 : decode cX2_next 22 = .ok (.getfield 17, 3) := by decide +kernel
theorem dX2_next_25 : decode cX2_next 25 = .ok (.aload_n 0, 1) := by decide +kernel
theorem dX2_next_26 : decode cX2_next 26 = .ok (.getfield 9, 3) := by decide +kernel
theorem dX2_next_29 : decode cX2_next 29 = .ok (.iconst 1, 1) := by decide +kernel
theorem dX2_next_30 : decode cX2_next 30 = .ok (.isub, 1) := by decide +kernel
theorem dX2_next_31 : decode cX2_next 31 = .ok (.aaload, 1) := by decide +kernel
theorem dX2_next_32 : decode cX2_next 32 = .ok (.areturn, 1) := by decide +kernel
set_option maxRecDepth 20000 in
theorem ggX2_actsOf_X0_isHelp : GoodIn wsX2_actsOf wsX0_isHelp := goodIn_r _ [8, 9, 12, 13, 14, 15] (by decide +kernel) (by decide +kernel)
set_option maxRecDepth 20000 in
theorem gX2_actsOf_X0_isHelp : GoodIn wsX2_actsOf (wsV RX2 22 RX0 yX0_isHelp wsX0_isHelp) := goodIn_app (goodIn_of _ (by decide +kernel)) ggX2_actsOf_X0_isHelp
theorem dX2_actsOf_0 : decode cX2_actsOf 0 = .ok (.iconst 0, 1) := by decide +kernel
theorem dX2_actsOf_1 : decode cX2_actsOf 1 = .ok (.istore_n 2, 1) := by decide +kernel
theorem dX2_actsOf_2 : decode cX2_actsOf 2 = .ok (.iconst 0, 1) := by decide +kernel
theorem dX2_actsOf_3 : decode cX2_actsOf 3 = .ok (.istore_n 3, 1) := by decide +kernel
theorem dX2_actsOf_4 : decode cX2_actsOf 4 = .ok (.iload_n 3, 1) := by decide +kernel
theorem dX2_actsOf_5 : decode cX2_actsOf 5 = .ok (.aload_n 0, 1) := by decide +kernel
theorem dX2_actsOf_6 : decode cX2_actsOf 6 = .ok (.getfield 9, 3) := by decide +kernel
theorem dX2_actsOf_9 : decode cX2_actsOf 9 = .ok (.if_icmp .ge 39, 3) := by decide +kernel
theorem dX2_actsOf_12 : decode cX2_actsOf 12 = .ok (.aload_n 0, 1) := by decide +kernel
theorem dX2_actsOf_13 : decode cX2_actsOf 13 = .ok (.getfield 17, 3) := by decide +kernel
theorem dX2_actsOf_16 : decode cX2_actsOf 16 = .ok (.iload_n 3, 1) := by decide +kernel
theorem dX2_actsOf_17 : decode cX2_actsOf 17 = .ok (.aaload, 1) := by decide +kernel
theorem dX2_actsOf_18 : decode cX2_actsOf 18 = .ok (.invokevirtual 22, 3) := by decide +kernel
theorem dX2_actsOf_21 : decode cX2_actsOf 21 = .ok (.ifCond .eq 21, 3) := by decide +kernel
theorem dX2_actsOf_24 : decode cX2_actsOf 24 = .ok (.aload_n 0, 1) := by decide +kernel
theorem dX2_actsOf_25 : decode cX2_actsOf 25 = .ok (.getfield 17, 3) := by decide +kernel
theorem dX2_actsOf_28 : decode cX2_actsOf 28 = .ok (.iload_n 3, 1) := by decide +kernel
theorem dX2_actsOf_29 : decode cX2_actsOf 29 = .ok (.aaload, 1) := by decide +kernel
theorem dX2_actsOf_30 : decode cX2_actsOf 30 = .ok (.getfield 26, 3) := by decide +kernel
theorem dX2_actsOf_33 : decode cX2_actsOf 33 = .ok (.iload_n 1, 1) := by decide +kernel
theorem dX2_actsOf_34 : decode cX2_actsOf 34 = .ok (.i2l, 1) := by decide +kernel
theorem dX2_actsOf_35 : decode cX2_actsOf 35 = .ok (.lcmp, 1) := by decide +kernel
theorem dX2_actsOf_36 : decode cX2_actsOf 36 = .ok (.ifCond .ne 6, 3) := by decide +kernel
theorem dX2_actsOf_39 : decode cX2_actsOf 39 = .ok (.iinc 2 1, 3) := by decide +kernel
theorem dX2_actsOf_42 : decode cX2_actsOf 42 = .ok (.iinc 3 1, 3) := by decide +kernel
theorem dX2_actsOf_45 : decode cX2_actsOf 45 = .ok (.goto (-41), 3) := by decide +kernel
theorem dX2_actsOf_48 : decode cX2_actsOf 48 = .ok (.iload_n 2, 1) := by decide +kernel
theorem dX2_actsOf_49 : decode cX2_actsOf 49 = .ok (.ireturn, 1) := by decide +kernel
theorem dX3_init_0 : decode cX3_init 0 = .ok (.aload_n 0, 1) := by decide +kernel
theorem dX3_init_1 : decode cX3_init 1 = .ok (.invokespecial 3, 3) := by decide +kernel
theorem dX3_init_4 : decode cX3_init 4 = .ok (.aload_n 0, 1) := by decide +kernel
theorem dX3_init_5 : decode cX3_init 5 = .ok (.iconst 0, 1) := by decide +kernel
theorem dX3_init_6 : decode cX3_init 6 = .ok (.putfield 9, 3) := by decide +kernel
theorem dX3_init_9 : decode cX3_init 9 = .ok (.aload_n 0, 1) := by decide +kernel
theorem dX3_init_10 : decode cX3_init 10 = .ok (.bipush 16, 2) := by decide +kernel
theorem dX3_init_12 : decode cX3_init 12 = .ok (.newarray .long, 2) := by decide +kernel
theorem dX3_init_14 : decode cX3_init 14 = .ok (.putfield 15, 3) := by decide +kernel
theorem dX3_init_17 : decode cX3_init 17 = .ok (.aload_n 0, 1) := by decide +kernel
theorem dX3_init_18 : decode cX3_init 18 = .ok (.bipush 16, 2) := by decide +kernel
theorem dX3_init_20 : decode cX3_init 20 = .ok (.newarray .long, 2) := by decide +kernel
theorem dX3_init_22 : decode cX3_init 22 = .ok (.putfield 19, 3) := by decide +kernel
theorem dX3_init_25 : decode cX3_init 25 = .ok (.return_, 1) := by decide +kernel
theorem dX3_areThere_0 : decode cX3_areThere 0 = .ok (.aload_n 0, 1) := by decide +kernel
theorem dX3_areThere_1 : decode cX3_areThere 1 = .ok (.getfield 9, 3) := by decide +kernel
theorem dX3_areThere_4 : decode cX3_areThere 4 = .ok (.ifCond .le 7, 3) := by decide +kernel
theorem dX3_areThere_7 : decode cX3_areThere 7 = .ok (.iconst 1, 1) := by decide +kernel
theorem dX3_areThere_8 : decode cX3_areThere 8 = .ok (.goto 4, 3) := by decide +kernel
theorem dX3_areThere_11 : decode cX3_areThere 11 = .ok (.iconst 0, 1) := by decide +kernel
theorem dX3_areThere_12 : decode cX3_areThere 12 = .ok (.ireturn, 1) := by decide +kernel
theorem dX3_has_0 : decode cX3_has 0 = .ok (.iload_n 1, 1) := by decide +kernel
theorem dX3_has_1 : decode cX3_has 1 = .ok (.ifCond .lt 15, 3) := by decide +kernel
theorem dX3_has_4 : decode cX3_has 4 = .ok (.iload_n 1, 1) := by decide +kernel
theorem dX3_has_5 : decode cX3_has 5 = .ok (.aload_n 0, 1) := by decide +kernel
theorem dX3_has_6 : decode cX3_has 6 = .ok (.getfield 9, 3) := by decide +kernel
theorem dX3_has_9 : decode cX3_has 9 = .ok (.if_icmp .ge 7, 3) := by decide +kernel
theorem dX3_has_12 : decode cX3_has 12 = .ok (.iconst 1, 1) := by decide +kernel
theorem dX3_has_13 : decode cX3_has 13 = .ok (.goto 4, 3) := by decide +kernel
theorem dX3_has_16 : decode cX3_has 16 = .ok (.iconst 0, 1) := by decide +kernel
theorem dX3_has_17 : decode cX3_has 17 = .ok (.ireturn, 1) := by decide +kernel
theorem dX3_forgetWhatWas_0 : decode cX3_forgetWhatWas 0 = .ok (.aload_n 0, 1) := by decide +kernel
theorem dX3_forgetWhatWas_1 : decode cX3_forgetWhatWas 1 = .ok (.getfield 15, 3) := by decide +kernel
theorem dX3_forgetWhatWas_4 : decode cX3_forgetWhatWas 4 = .ok (.iconst 0, 1) := by decide +kernel
theorem dX3_forgetWhatWas_5 : decode cX3_forgetWhatWas 5 = .ok (.aload_n 0, 1) := by decide +kernel
theorem dX3_forgetWhatWas_6 : decode cX3_forgetWhatWas 6 = .ok (.getfield 19, 3) := by decide +kernel
theorem dX3_forgetWhatWas_9 : decode cX3_forgetWhatWas 9 = .ok (.iconst 0, 1) := by decide +kernel
theorem dX3_forgetWhatWas_10 : decode cX3_forgetWhatWas 10 = .ok (.bipush 16, 2) := by decide +kernel
theorem dX3_forgetWhatWas_12 : decode cX3_forgetWhatWas 12 = .ok (.invokestatic 22, 3) := by decide +kernel
theorem dX3_forgetWhatWas_15 : decode cX3_forgetWhatWas 15 = .ok (.return_, 1) := by decide +kernel
set_option maxRecDepth 20000 in
theorem ggX3_becomeLike_X3_forgetWhatWas : GoodIn wsX3_becomeLike wsX3_forgetWhatWas := goodIn_r _ [11, 2, 12, 3, 4, 5, 6, 13, 14, 15] (by decide +kernel) (by decide +kernel)
set_option maxRecDepth 20000 in
theorem gX3_becomeLike_X3_forgetWhatWas : GoodIn wsX3_becomeLike (wsV RX3 28 RX3 yX3_forgetWhatWas wsX3_forgetWhatWas) := goodIn_app (goodIn_of _ (by decide +kernel)) ggX3_becomeLike_X3_forgetWhatWas
theorem dX3_becomeLike_0 : decode cX3_becomeLike 0 = .ok (.aload_n 0, 1) := by decide +kernel
theorem dX3_becomeLike_1 : decode cX3_becomeLike 1 = .ok (.aload_n 1, 1) := by decide +kernel
theorem dX3_becomeLike_2 : decode cX3_becomeLike 2 = .ok (.getfield 9, 3) := by decide +kernel
theorem dX3_becomeLike_5 : decode cX3_becomeLike 5 = .ok (.putfield 9, 3) := by decide +kernel
theorem dX3_becomeLike_8 : decode cX3_becomeLike 8 = .ok (.aload_n 1, 1) := by decide +kernel
theorem dX3_becomeLike_9 : decode cX3_becomeLike 9 = .ok (.getfield 15, 3) := by decide +kernel
theorem dX3_becomeLike_12 : decode cX3_becomeLike 12 = .ok (.iconst 0, 1) := by decide +kernel
theorem dX3_becomeLike_13 : decode cX3_becomeLike 13 = .ok (.aload_n 0, 1) := by decide +kernel
theorem dX3_becomeLike_14 : decode cX3_becomeLike 14 = .ok (.getfield 15, 3) := by decide +kernel
theorem dX3_becomeLike_17 : decode cX3_becomeLike 17 = .ok (.iconst 0, 1) := by decide +kernel
theorem dX3_becomeLike_18 : decode cX3_becomeLike 18 = .ok (.bipush 16, 2) := by decide +kernel
theorem dX3_becomeLike_20 : decode cX3_becomeLike 20 = .ok (.invokestatic 22, 3) := by decide +kernel
theorem dX3_becomeLike_23 : decode cX3_becomeLike 23 = .ok (.aload_n 0, 1) := by decide +kernel
theorem dX3_becomeLike_24 : decode cX3_becomeLike 24 = .ok (.invokevirtual 28, 3) := by decide +kernel
theorem dX3_becomeLike_27 : decode cX3_becomeLike 27 = .ok (.return_, 1) := by decide +kernel
set_option maxRecDepth 20000 in
theorem ggX3_suffer_X3_has : GoodIn wsX3_suffer wsX3_has := goodIn_r _ [14, 15, 45, 46, 47] (by decide +kernel) (by decide +kernel)
set_option maxRecDepth 20000 in
theorem gX3_suffer_X3_has : GoodIn wsX3_suffer (wsV RX3 36 RX3 yX3_has wsX3_has) := goodIn_app (goodIn_of _ (by decide +kernel)) ggX3_suffer_X3_has
set_option maxRecDepth 20000 in
theorem ggX3_suffer_X0_amount : GoodIn wsX3_suffer wsX0_amount := goodIn_r _ [20, 21, 22, 23, 24, 25, 26, 27, 28, 29, 30, 31, 32, 33, 34, 41, 42, 43, 44, 48, 49, 50] (by decide +kernel) (by decide +kernel)
set_option maxRecDepth 20000 in
theorem gX3_suffer_X0_amount : GoodIn wsX3_suffer (wsV RX3 43 RX0 yX0_amount wsX0_amount) := goodIn_app (goodIn_of _ (by decide +kernel)) ggX3_suffer_X0_amount
set_option maxRecDepth 20000 in
theorem ggX3_suffer_X3_changed : GoodIn wsX3_suffer wsX3_changed := goodIn_r _ [37, 38, 39, 8, 40, 6, 7, 9] (by decide +kernel) (by decide +kernel)
set_option maxRecDepth 20000 in
theorem gX3_suffer_X3_changed : GoodIn wsX3_suffer (va_wsS RX3 50 yX3_changed wsX3_changed) := goodIn_app (goodIn_of _ (by decide +kernel)) ggX3_suffer_X3_changed
theorem dX3_suffer_0 : decode cX3_suffer 0 = .ok (.aload_n 0, 1) := by decide +kernel
theorem dX3_suffer_1 : decode cX3_suffer 1 = .ok (.aload_n 1, 1) := by decide +kernel
theorem dX3_suffer_2 : decode cX3_suffer 2 = .ok (.getfield 31, 3) := by decide +kernel
theorem dX3_suffer_5 : decode cX3_suffer 5 = .ok (.invokevirtual 36, 3) := by decide +kernel
theorem dX3_suffer_8 : decode cX3_suffer 8 = .ok (.ifCond .eq 14, 3) := by decide +kernel
theorem dX3_suffer_11 : decode cX3_suffer 11 = .ok (.aload_n 0, 1) := by decide +kernel
theorem dX3_suffer_12 : decode cX3_suffer 12 = .ok (.aload_n 1, 1) := by decide +kernel
theorem dX3_suffer_13 : decode cX3_suffer 13 = .ok (.getfield 40, 3) := by decide +kernel
theorem dX3_suffer_16 : decode cX3_suffer 16 = .ok (.invokevirtual 36, 3) := by decide +kernel
theorem dX3_suffer_19 : decode cX3_suffer 19 = .ok (.ifCond .ne 5, 3) := by decide +kernel
theorem dX3_suffer_22 : decode cX3_suffer 22 = .ok (.iconst 0, 1) := by decide +kernel
theorem dX3_suffer_23 : decode cX3_suffer 23 = .ok (.ireturn, 1) := by decide +kernel
theorem dX3_suffer_24 : decode cX3_suffer 24 = .ok (.aload_n 1, 1) := by decide +kernel
theorem dX3_suffer_25 : decode cX3_suffer 25 = .ok (.aload_n 2, 1) := by decide +kernel
theorem dX3_suffer_26 : decode cX3_suffer 26 = .ok (.invokevirtual 43, 3) := by decide +kernel
theorem dX3_suffer_29 : decode cX3_suffer 29 = .ok (.lstore_n 3, 1) := by decide +kernel
theorem dX3_suffer_30 : decode cX3_suffer 30 = .ok (.iconst 0, 1) := by decide +kernel
theorem dX3_suffer_31 : decode cX3_suffer 31 = .ok (.istore 5, 2) := by decide +kernel
theorem dX3_suffer_33 : decode cX3_suffer 33 = .ok (.aload_n 1, 1) := by decide +kernel
theorem dX3_suffer_34 : decode cX3_suffer 34 = .ok (.getfield 31, 3) := by decide +kernel
theorem dX3_suffer_37 : decode cX3_suffer 37 = .ok (.istore 6, 2) := by decide +kernel
theorem dX3_suffer_39 : decode cX3_suffer 39 = .ok (.iload 6, 2) := by decide +kernel
theorem dX3_suffer_41 : decode cX3_suffer 41 = .ok (.aload_n 1, 1) := by decide +kernel
theorem dX3_suffer_42 : decode cX3_suffer 42 = .ok (.getfield 40, 3) := by decide +kernel
theorem dX3_suffer_45 : decode cX3_suffer 45 = .ok (.if_icmp .gt 70, 3) := by decide +kernel
theorem dX3_suffer_48 : decode cX3_suffer 48 = .ok (.aload_n 0, 1) := by decide +kernel
theorem dX3_suffer_49 : decode cX3_suffer 49 = .ok (.getfield 15, 3) := by decide +kernel
theorem dX3_suffer_52 : decode cX3_suffer 52 = .ok (.iload 6, 2) := by decide +kernel
theorem dX3_suffer_54 : decode cX3_suffer 54 = .ok (.laload, 1) := by decide +kernel
theorem dX3_suffer_55 : decode cX3_suffer 55 = .ok (.aload_n 1, 1) := by decide +kernel
theorem dX3_suffer_56 : decode cX3_suffer 56 = .ok (.getfield 47, 3) := by decide +kernel
theorem dX3_suffer_59 : decode cX3_suffer 59 = .ok (.lload_n 3, 1) := by decide +kernel
theorem dX3_suffer_60 : decode cX3_suffer 60 = .ok (.invokestatic 50, 3) := by decide +kernel
theorem dX3_suffer_63 : decode cX3_suffer 63 = .ok (.lstore 7, 2) := by decide +kernel
theorem dX3_suffer_65 : decode cX3_suffer 65 = .ok (.lload 7, 2) := by decide +kernel
theorem dX3_suffer_67 : decode cX3_suffer 67 = .ok (.aload_n 0, 1) := by decide +kernel
theorem dX3_suffer_68 : decode cX3_suffer 68 = .ok (.getfield 15, 3) := by decide +kernel
theorem dX3_suffer_71 : decode cX3_suffer 71 = .ok (.iload 6, 2) := by decide +kernel
theorem dX3_suffer_73 : decode cX3_suffer 73 = .ok (.laload, 1) := by decide +kernel
theorem dX3_suffer_74 : decode cX3_suffer 74 = .ok (.lcmp, 1) := by decide +kernel
theorem dX3_suffer_75 : decode cX3_suffer 75 = .ok (.ifCond .eq 6, 3) := by decide +kernel
theorem dX3_suffer_78 : decode cX3_suffer 78 = .ok (.iinc 5 1, 3) := by decide +kernel
theorem dX3_suffer_81 : decode cX3_suffer 81 = .ok (.aload_n 0, 1) := by decide +kernel
theorem dX3_suffer_82 : decode cX3_suffer 82 = .ok (.getfield 15, 3) := by decide +kernel
theorem dX3_suffer_85 : decode cX3_suffer 85 = .ok (.iload 6, 2) := by decide +kernel
theorem dX3_suffer_87 : decode cX3_suffer 87 = .ok (.lload 7, 2) := by decide +kernel
theorem dX3_suffer_89 : decode cX3_suffer 89 = .ok (.lastore, 1) := by decide +kernel
theorem dX3_suffer_90 : decode cX3_suffer 90 = .ok (.aload_n 0, 1) := by decide +kernel
theorem dX3_suffer_91 : decode cX3_suffer 91 = .ok (.getfield 19, 3) := by decide +kernel
theorem dX3_suffer_94 : decode cX3_suffer 94 = .ok (.iload 6, 2) := by decide +kernel
theorem dX3_suffer_96 : decode cX3_suffer 96 = .ok (.aload_n 0, 1) := by decide +kernel
theorem dX3_suffer_97 : decode cX3_suffer 97 = .ok (.getfield 19, 3) := by decide +kernel
theorem dX3_suffer_100 : decode cX3_suffer 100 = .ok (.iload 6, 2) := by decide +kernel
theorem dX3_suffer_102 : decode cX3_suffer 102 = .ok (.laload, 1) := by decide +kernel
theorem dX3_suffer_103 : decode cX3_suffer 103 = .ok (.lload 7, 2) := by decide +kernel
theorem dX3_suffer_105 : decode cX3_suffer 105 = .ok (.invokestatic 54, 3) := by decide +kernel
theorem dX3_suffer_108 : decode cX3_suffer 108 = .ok (.lastore, 1) := by decide +kernel
theorem dX3_suffer_109 : decode cX3_suffer 109 = .ok (.iinc 6 1, 3) := by decide +kernel
theorem dX3_suffer_112 : decode cX3_suffer 112 = .ok (.goto (-73), 3) := by decide +kernel
theorem dX3_suffer_115 : decode cX3_suffer 115 = .ok (.iload 5, 2) := by decide +kernel
theorem dX3_suffer_117 : decode cX3_suffer 117 = .ok (.ireturn, 1) := by decide +kernel
theorem dX3_changed_0 : decode cX3_changed 0 = .ok (.iload_n 2, 1) := by decide +kernel
theorem dX3_changed_1 : decode cX3_changed 1 = .ok (.lookupswitch 39 #[(1, 27), (2, 33)], 27) := by decide +kernel
theorem dX3_changed_28 : decode cX3_changed 28 = .ok (.lload_n 0, 1) := by decide +kernel
theorem dX3_changed_29 : decode cX3_changed 29 = .ok (.lload_n 3, 1) := by decide +kernel
theorem dX3_changed_30 : decode cX3_changed 30 = .ok (.invokestatic 60, 3) := by decide +kernel
theorem dX3_changed_33 : decode cX3_changed 33 = .ok (.lreturn, 1) := by decide +kernel
theorem dX3_changed_34 : decode cX3_changed 34 = .ok (.lload_n 0, 1) := by decide +kernel
theorem dX3_changed_35 : decode cX3_changed 35 = .ok (.lload_n 3, 1) := by decide +kernel
theorem dX3_changed_36 : decode cX3_changed 36 = .ok (.invokestatic 54, 3) := by decide +kernel
theorem dX3_changed_39 : decode cX3_changed 39 = .ok (.lreturn, 1) := by decide +kernel
theorem dX3_changed_40 : decode cX3_changed 40 = .ok (.lload_n 0, 1) := by decide +kernel
theorem dX3_changed_41 : decode cX3_changed 41 = .ok (.lload_n 3, 1) := by decide +kernel
theorem dX3_changed_42 : decode cX3_changed 42 = .ok (.ladd, 1) := by decide +kernel
theorem dX3_changed_43 : decode cX3_changed 43 = .ok (.lreturn, 1) := by decide +kernel
theorem dX4_init_0 : decode cX4_init 0 = .ok (.aload_n 0, 1) := by decide +kernel
theorem dX4_init_1 : decode cX4_init 1 = .ok (.invokespecial 3, 3) := by decide +kernel
theorem dX4_init_4 : decode cX4_init 4 = .ok (.aload_n 0, 1) := by decide +kernel
theorem dX4_init_5 : decode cX4_init 5 = .ok (.iconst 0, 1) := by decide +kernel
theorem dX4_init_6 : decode cX4_init 6 = .ok (.putfield 9, 3) := by decide +kernel
theorem dX4_init_9 : decode cX4_init 9 = .ok (.aload_n 0, 1) := by decide +kernel
theorem dX4_init_10 : decode cX4_init 10 = .ok (.bipush 8, 2) := by decide +kernel
theorem dX4_init_12 : decode cX4_init 12 = .ok (.newarray .int, 2) := by decide +kernel
theorem dX4_init_14 : decode cX4_init 14 = .ok (.putfield 15, 3) := by decide +kernel
theorem dX4_init_17 : decode cX4_init 17 = .ok (.aload_n 0, 1) := by decide +kernel
theorem dX4_init_18 : decode cX4_init 18 = .ok (.bipush 8, 2) := by decide +kernel
theorem dX4_init_20 : decode cX4_init 20 = .ok (.newarray .long, 2) := by decide +kernel
theorem dX4_init_22 : decode cX4_init 22 = .ok (.putfield 19, 3) := by decide +kernel
theorem dX4_init_25 : decode cX4_init 25 = .ok (.return_, 1) := by decide +kernel
theorem dX4_keep_0 : decode cX4_keep 0 = .ok (.aload_n 0, 1) := by decide +kernel
theorem dX4_keep_1 : decode cX4_keep 1 = .ok (.getfield 9, 3) := by decide +kernel
theorem dX4_keep_4 : decode cX4_keep 4 = .ok (.bipush 8, 2) := by decide +kernel
theorem dX4_keep_6 : decode cX4_keep 6 = .ok (.if_icmp .lt 6, 3) := by decide +kernel
theorem dX4_keep_9 : decode cX4_keep 9 = .ok (.bipush (-4), 2) := by decide +kernel
theorem dX4_keep_11 : decode cX4_keep 11 = .ok (.ireturn, 1) := by decide +kernel
theorem dX4_keep_12 : decode cX4_keep 12 = .ok (.aload_n 0, 1) := by decide +kernel
theorem dX4_keep_13 : decode cX4_keep 13 = .ok (.getfield 15, 3) := by decide +kernel
theorem dX4_keep_16 : decode cX4_keep 16 = .ok (.aload_n 0, 1) := by decide +kernel
theorem dX4_keep_17 : decode cX4_keep 17 = .ok (.getfield 9, 3) := by decide +kernel
theorem dX4_keep_20 : decode cX4_keep 20 = .ok (.iload_n 1, 1) := by decide +kernel
theorem dX4_keep_21 : decode cX4_keep 21 = .ok (.iastore, 1) := by decide +kernel
theorem dX4_keep_22 : decode cX4_keep 22 = .ok (.aload_n 0, 1) := by decide +kernel
theorem dX4_keep_23 : decode cX4_keep 23 = .ok (.getfield 19, 3) := by decide +kernel
theorem dX4_keep_26 : decode cX4_keep 26 = .ok (.aload_n 0, 1) := by decide +kernel
theorem dX4_keep_27 : decode cX4_keep 27 = .ok (.getfield 9, 3) := by decide +kernel
theorem dX4_keep_30 : decode cX4_keep 30 = .ok (.lload_n 2, 1) := by decide +kernel
theorem dX4_keep_31 : decode cX4_keep 31 = .ok (.lastore, 1) := by decide +kernel
theorem dX4_keep_32 : decode cX4_keep 32 = .ok (.aload_n 0, 1) := by decide +kernel
theorem dX4_keep_33 : decode cX4_keep 33 = .ok (.dup, 1) := by decide +kernel
theorem dX4_keep_34 : decode cX4_keep 34 = .ok (.getfield 9, 3) := by decide +kernel
theorem dX4_keep_37 : decode cX4_keep 37 = .ok (.iconst 1, 1) := by decide +kernel
theorem dX4_keep_38 : decode cX4_keep 38 = .ok (.iadd, 1) := by decide +kernel
theorem dX4_keep_39 : decode cX4_keep 39 = .ok (.putfield 9, 3) := by decide +kernel
theorem dX4_keep_42 : decode cX4_keep 42 = .ok (.aload_n 0, 1) := by decide +kernel
theorem dX4_keep_43 : decode cX4_keep 43 = .ok (.getfield 9, 3) := by decide +kernel
theorem dX4_keep_46 : decode cX4_keep 46 = .ok (.iconst 1, 1) := by decide +kernel
theorem dX4_keep_47 : decode cX4_keep 47 = .ok (.isub, 1) := by decide +kernel
theorem dX4_keep_48 : decode cX4_keep 48 = .ok (.ireturn, 1) := by decide +kernel
set_option maxRecDepth 20000 in
theorem ggX4_areSoBy_X3_has : GoodIn wsX4_areSoBy wsX3_has := goodIn_r _ [9, 10, 14, 15, 16] (by decide +kernel) (by decide +kernel)
set_option maxRecDepth 20000 in
theorem gX4_areSoBy_X3_has : GoodIn wsX4_areSoBy (wsV RX4 23 RX3 yX3_has wsX3_has) := goodIn_app (goodIn_of _ (by decide +kernel)) ggX4_areSoBy_X3_has
theorem dX4_areSoBy_0 : decode cX4_areSoBy 0 = .ok (.iconst 0, 1) := by decide +kernel
theorem dX4_areSoBy_1 : decode cX4_areSoBy 1 = .ok (.istore_n 2, 1) := by decide +kernel
theorem dX4_areSoBy_2 : decode cX4_areSoBy 2 = .ok (.iload_n 2, 1) := by decide +kernel
theorem dX4_areSoBy_3 : decode cX4_areSoBy 3 = .ok (.aload_n 0, 1) := by decide +kernel
theorem dX4_areSoBy_4 : decode cX4_areSoBy 4 = .ok (.getfield 9, 3) := by decide +kernel
theorem dX4_areSoBy_7 : decode cX4_areSoBy 7 = .ok (.if_icmp .ge 45, 3) := by decide +kernel
theorem dX4_areSoBy_10 : decode cX4_areSoBy 10 = .ok (.aload_n 1, 1) := by decide +kernel
theorem dX4_areSoBy_11 : decode cX4_areSoBy 11 = .ok (.aload_n 0, 1) := by decide +kernel
theorem dX4_areSoBy_12 : decode cX4_areSoBy 12 = .ok (.getfield 15, 3) := by decide +kernel
theorem dX4_areSoBy_15 : decode cX4_areSoBy 15 = .ok (.iload_n 2, 1) := by decide +kernel
theorem dX4_areSoBy_16 : decode cX4_areSoBy 16 = .ok (.iaload, 1) := by decide +kernel
theorem dX4_areSoBy_17 : decode cX4_areSoBy 17 = .ok (.invokevirtual 23, 3) := by decide +kernel
theorem dX4_areSoBy_20 : decode cX4_areSoBy 20 = .ok (.ifCond .eq 24, 3) := by decide +kernel
theorem dX4_areSoBy_23 : decode cX4_areSoBy 23 = .ok (.aload_n 1, 1) := by decide +kernel
theorem dX4_areSoBy_24 : decode cX4_areSoBy 24 = .ok (.getfield 29, 3) := by decide +kernel
theorem dX4_areSoBy_27 : decode cX4_areSoBy 27 = .ok (.aload_n 0, 1) := by decide +kernel
theorem dX4_areSoBy_28 : decode cX4_areSoBy 28 = .ok (.getfield 15, 3) := by decide +kernel
theorem dX4_areSoBy_31 : decode cX4_areSoBy 31 = .ok (.iload_n 2, 1) := by decide +kernel
theorem dX4_areSoBy_32 : decode cX4_areSoBy 32 = .ok (.iaload, 1) := by decide +kernel
theorem dX4_areSoBy_33 : decode cX4_areSoBy 33 = .ok (.laload, 1) := by decide +kernel
theorem dX4_areSoBy_34 : decode cX4_areSoBy 34 = .ok (.aload_n 0, 1) := by decide +kernel
theorem dX4_areSoBy_35 : decode cX4_areSoBy 35 = .ok (.getfield 19, 3) := by decide +kernel
theorem dX4_areSoBy_38 : decode cX4_areSoBy 38 = .ok (.iload_n 2, 1) := by decide +kernel
theorem dX4_areSoBy_39 : decode cX4_areSoBy 39 = .ok (.laload, 1) := by decide +kernel
theorem dX4_areSoBy_40 : decode cX4_areSoBy 40 = .ok (.lcmp, 1) := by decide +kernel
theorem dX4_areSoBy_41 : decode cX4_areSoBy 41 = .ok (.ifCond .eq 5, 3) := by decide +kernel
theorem dX4_areSoBy_44 : decode cX4_areSoBy 44 = .ok (.iconst 0, 1) := by decide +kernel
theorem dX4_areSoBy_45 : decode cX4_areSoBy 45 = .ok (.ireturn, 1) := by decide +kernel
theorem dX4_areSoBy_46 : decode cX4_areSoBy 46 = .ok (.iinc 2 1, 3) := by decide +kernel
theorem dX4_areSoBy_49 : decode cX4_areSoBy 49 = .ok (.goto (-47), 3) := by decide +kernel
theorem dX4_areSoBy_52 : decode cX4_areSoBy 52 = .ok (.iconst 1, 1) := by decide +kernel
theorem dX4_areSoBy_53 : decode cX4_areSoBy 53 = .ok (.ireturn, 1) := by decide +kernel
theorem dX5_init_0 : decode cX5_init 0 = .ok (.aload_n 0, 1) := by decide +kernel
theorem dX5_init_1 : decode cX5_init 1 = .ok (.invokespecial 3, 3) := by decide +kernel
theorem dX5_init_4 : decode cX5_init 4 = .ok (.aload_n 0, 1) := by decide +kernel
theorem dX5_init_5 : decode cX5_init 5 = .ok (.iconst 0, 1) := by decide +kernel
theorem dX5_init_6 : decode cX5_init 6 = .ok (.putfield 9, 3) := by decide +kernel
theorem dX5_init_9 : decode cX5_init 9 = .ok (.aload_n 0, 1) := by decide +kernel
theorem dX5_init_10 : decode cX5_init 10 = .ok (.iconst 0, 1) := by decide +kernel
theorem dX5_init_11 : decode cX5_init 11 = .ok (.putfield 15, 3) := by decide +kernel
theorem dX5_init_14 : decode cX5_init 14 = .ok (.aload_n 0, 1) := by decide +kernel
theorem dX5_init_15 : decode cX5_init 15 = .ok (.iconst 0, 1) := by decide +kernel
theorem dX5_init_16 : decode cX5_init 16 = .ok (.putfield 19, 3) := by decide +kernel
theorem dX5_init_19 : decode cX5_init 19 = .ok (.aload_n 0, 1) := by decide +kernel
theorem dX5_init_20 : decode cX5_init 20 = .ok (.bipush 60, 2) := by decide +kernel
theorem dX5_init_22 : decode cX5_init 22 = .ok (.newarray .int, 2) := by decide +kernel
theorem dX5_init_24 : decode cX5_init 24 = .ok (.putfield 22, 3) := by decide +kernel
theorem dX5_init_27 : decode cX5_init 27 = .ok (.return_, 1) := by decide +kernel
set_option maxRecDepth 20000 in
theorem ggX5_getRow_J7_fill_53178 : GoodIn wsX5_getRow wsJ7_fill_53178 := goodIn_r _ [8] (by decide +kernel) (by decide +kernel)
set_option maxRecDepth 20000 in
theorem gX5_getRow_J7_fill_53178 : GoodIn wsX5_getRow (va_wsS RX5 26 yJ7_fill_53178 wsJ7_fill_53178) := goodIn_app (goodIn_of _ (by decide +kernel)) ggX5_getRow_J7_fill_53178
theorem dX5_getRow_0 : decode cX5_getRow 0 = .ok (.aload_n 0, 1) := by decide +kernel
theorem dX5_getRow_1 : decode cX5_getRow 1 = .ok (.iconst 1, 1) := by decide +kernel
theorem dX5_getRow_2 : decode cX5_getRow 2 = .ok (.putfield 9, 3) := by decide +kernel
theorem dX5_getRow_5 : decode cX5_getRow 5 = .ok (.aload_n 0, 1) := by decide +kernel
theorem dX5_getRow_6 : decode cX5_getRow 6 = .ok (.iload_n 1, 1) := by decide +kernel
theorem dX5_getRow_7 : decode cX5_getRow 7 = .ok (.putfield 15, 3) := by decide +kernel
theorem dX5_getRow_10 : decode cX5_getRow 10 = .ok (.aload_n 0, 1) := by decide +kernel
theorem dX5_getRow_11 : decode cX5_getRow 11 = .ok (.iload_n 2, 1) := by decide +kernel
theorem dX5_getRow_12 : decode cX5_getRow 12 = .ok (.putfield 19, 3) := by decide +kernel
theorem dX5_getRow_15 : decode cX5_getRow 15 = .ok (.aload_n 0, 1) := by decide +kernel
theorem dX5_getRow_16 : decode cX5_getRow 16 = .ok (.getfield 22, 3) := by decide +kernel
theorem dX5_getRow_19 : decode cX5_getRow 19 = .ok (.iconst 0, 1) := by decide +kernel
theorem dX5_getRow_20 : decode cX5_getRow 20 = .ok (.invokestatic 26, 3) := by decide +kernel
theorem dX5_getRow_23 : decode cX5_getRow 23 = .ok (.return_, 1) := by decide +kernel
theorem dX5_loseRow_0 : decode cX5_loseRow 0 = .ok (.aload_n 0, 1) := by decide +kernel
theorem dX5_loseRow_1 : decode cX5_loseRow 1 = .ok (.getfield 9, 3) := by decide +kernel
theorem dX5_loseRow_4 : decode cX5_loseRow 4 = .ok (.istore_n 1, 1) := by decide +kernel
theorem dX5_loseRow_5 : decode cX5_loseRow 5 = .ok (.aload_n 0, 1) := by decide +kernel
theorem dX5_loseRow_6 : decode cX5_loseRow 6 = .ok (.iconst 0, 1) := by decide +kernel
theorem dX5_loseRow_7 : decode cX5_loseRow 7 = .ok (.putfield 9, 3) := by decide +kernel
theorem dX5_loseRow_10 : decode cX5_loseRow 10 = .ok (.aload_n 0, 1) := by decide +kernel
theorem dX5_loseRow_11 : decode cX5_loseRow 11 = .ok (.iconst 0, 1) := by decide +kernel
theorem dX5_loseRow_12 : decode cX5_loseRow 12 = .ok (.putfield 19, 3) := by decide +kernel
theorem dX5_loseRow_15 : decode cX5_loseRow 15 = .ok (.iload_n 1, 1) := by decide +kernel
theorem dX5_loseRow_16 : decode cX5_loseRow 16 = .ok (.ireturn, 1) := by decide +kernel
theorem dX5_faultTakenAs_0 : decode cX5_faultTakenAs 0 = .ok (.aload_n 0, 1) := by decide +kernel
theorem dX5_faultTakenAs_1 : decode cX5_faultTakenAs 1 = .ok (.getfield 9, 3) := by decide +kernel
theorem dX5_faultTakenAs_4 : decode cX5_faultTakenAs 4 = .ok (.ifCond .ne 5, 3) := by decide +kernel
theorem dX5_faultTakenAs_7 : decode cX5_faultTakenAs 7 = .ok (.iconst 1, 1) := by decide +kernel
theorem dX5_faultTakenAs_8 : decode cX5_faultTakenAs 8 = .ok (.ireturn, 1) := by decide +kernel
theorem dX5_faultTakenAs_9 : decode cX5_faultTakenAs 9 = .ok (.aload_n 0, 1) := by decide +kernel
theorem dX5_faultTakenAs_10 : decode cX5_faultTakenAs 10 = .ok (.getfield 15, 3) := by decide +kernel
theorem dX5_faultTakenAs_13 : decode cX5_faultTakenAs 13 = .ok (.iload_n 1, 1) := by decide +kernel
theorem dX5_faultTakenAs_14 : decode cX5_faultTakenAs 14 = .ok (.if_icmp .eq 7, 3) := by decide +kernel
theorem dX5_faultTakenAs_17 : decode cX5_faultTakenAs 17 = .ok (.iconst 2, 1) := by decide +kernel
theorem dX5_faultTakenAs_18 : decode cX5_faultTakenAs 18 = .ok (.goto 4, 3) := by decide +kernel
theorem dX5_faultTakenAs_21 : decode cX5_faultTakenAs 21 = .ok (.iconst 0, 1) := by decide +kernel
theorem dX5_faultTakenAs_22 : decode cX5_faultTakenAs 22 = .ok (.ireturn, 1) := by decide +kernel
theorem dX5_hasCells_0 : decode cX5_hasCells 0 = .ok (.iload_n 1, 1) := by decide +kernel
theorem dX5_hasCells_1 : decode cX5_hasCells 1 = .ok (.ifCond .lt 29, 3) := by decide +kernel
theorem dX5_hasCells_4 : decode cX5_hasCells 4 = .ok (.iload_n 1, 1) := by decide +kernel
theorem dX5_hasCells_5 : decode cX5_hasCells 5 = .ok (.aload_n 0, 1) := by decide +kernel
theorem dX5_hasCells_6 : decode cX5_hasCells 6 = .ok (.getfield 19, 3) := by decide +kernel
theorem dX5_hasCells_9 : decode cX5_hasCells 9 = .ok (.if_icmp .gt 21, 3) := by decide +kernel
theorem dX5_hasCells_12 : decode cX5_hasCells 12 = .ok (.iload_n 2, 1) := by decide +kernel
theorem dX5_hasCells_13 : decode cX5_hasCells 13 = .ok (.ifCond .lt 17, 3) := by decide +kernel
theorem dX5_hasCells_16 : decode cX5_hasCells 16 = .ok (.iload_n 2, 1) := by decide +kernel
theorem dX5_hasCells_17 : decode cX5_hasCells 17 = .ok (.aload_n 0, 1) := by decide +kernel
theorem dX5_hasCells_18 : decode cX5_hasCells 18 = .ok (.getfield 19, 3) := by decide +kernel
theorem dX5_hasCells_21 : decode cX5_hasCells 21 = .ok (.iload_n 1, 1) := by decide +kernel
theorem dX5_hasCells_22 : decode cX5_hasCells 22 = .ok (.isub, 1) := by decide +kernel
theorem dX5_hasCells_23 : decode cX5_hasCells 23 = .ok (.if_icmp .gt 7, 3) := by decide +kernel
theorem dX5_hasCells_26 : decode cX5_hasCells 26 = .ok (.iconst 1, 1) := by decide +kernel
theorem dX5_hasCells_27 : decode cX5_hasCells 27 = .ok (.goto 4, 3) := by decide +kernel
theorem dX5_hasCells_30 : decode cX5_hasCells 30 = .ok (.iconst 0, 1) := by decide +kernel
theorem dX5_hasCells_31 : decode cX5_hasCells 31 = .ok (.ireturn, 1) := by decide +kernel
theorem dX5_code_0 : decode cX5_code 0 = .ok (.iload_n 1, 1) := by decide +kernel
theorem dX5_code_1 : decode cX5_code 1 = .ok (.ifCond .lt 20, 3) := by decide +kernel
theorem dX5_code_4 : decode cX5_code 4 = .ok (.iload_n 1, 1) := by decide +kernel
theorem dX5_code_5 : decode cX5_code 5 = .ok (.aload_n 0, 1) := by decide +kernel
theorem dX5_code_6 : decode cX5_code 6 = .ok (.getfield 19, 3) := by decide +kernel
theorem dX5_code_9 : decode cX5_code 9 = .ok (.if_icmp .ge 12, 3) := by decide +kernel
theorem dX5_code_12 : decode cX5_code 12 = .ok (.aload_n 0, 1) := by decide +kernel
theorem dX5_code_13 : decode cX5_code 13 = .ok (.getfield 22, 3) := by decide +kernel
theorem dX5_code_16 : decode cX5_code 16 = .ok (.iload_n 1, 1) := by decide +kernel
theorem dX5_code_17 : decode cX5_code 17 = .ok (.iaload, 1) := by decide +kernel
theorem dX5_code_18 : decode cX5_code 18 = .ok (.goto 5, 3) := by decide +kernel
theorem dX5_code_21 : decode cX5_code 21 = .ok (.bipush (-9), 2) := by decide +kernel
theorem dX5_code_23 : decode cX5_code 23 = .ok (.ireturn, 1) := by decide +kernel
theorem dX5_cut_0 : decode cX5_cut 0 = .ok (.aload_n 0, 1) := by decide +kernel
theorem dX5_cut_1 : decode cX5_cut 1 = .ok (.getfield 15, 3) := by decide +kernel
theorem dX5_cut_4 : decode cX5_cut 4 = .ok (.lookupswitch 34 #[(0, 28), (1, 31)], 28) := by decide +kernel
theorem dX5_cut_32 : decode cX5_cut 32 = .ok (.iload_n 1, 1) := by decide +kernel
theorem dX5_cut_33 : decode cX5_cut 33 = .ok (.i2b, 1) := by decide +kernel
theorem dX5_cut_34 : decode cX5_cut 34 = .ok (.ireturn, 1) := by decide +kernel
theorem dX5_cut_35 : decode cX5_cut 35 = .ok (.iload_n 1, 1) := by decide +kernel
theorem dX5_cut_36 : decode cX5_cut 36 = .ok (.i2s, 1) := by decide +kernel
theorem dX5_cut_37 : decode cX5_cut 37 = .ok (.ireturn, 1) := by decide +kernel
theorem dX5_cut_38 : decode cX5_cut 38 = .ok (.iload_n 1, 1) := by decide +kernel
theorem dX5_cut_39 : decode cX5_cut 39 = .ok (.ireturn, 1) := by decide +kernel
set_option maxRecDepth 20000 in
theorem ggX6_init_J7_fill_53178 : GoodIn wsX6_init wsJ7_fill_53178 := goodIn_r _ [10] (by decide +kernel) (by decide +kernel)
set_option maxRecDepth 20000 in
theorem gX6_init_J7_fill_53178 : GoodIn wsX6_init (va_wsS RX6 18 yJ7_fill_53178 wsJ7_fill_53178) := goodIn_app (goodIn_of _ (by decide +kernel)) ggX6_init_J7_fill_53178
theorem dX6_init_0 : decode cX6_init 0 = .ok (.aload_n 0, 1) := by decide +kernel
theorem dX6_init_1 : decode cX6_init 1 = .ok (.invokespecial 3, 3) := by decide +kernel
theorem dX6_init_4 : decode cX6_init 4 = .ok (.aload_n 0, 1) := by decide +kernel
theorem dX6_init_5 : decode cX6_init 5 = .ok (.bipush 32, 2) := by decide +kernel
theorem dX6_init_7 : decode cX6_init 7 = .ok (.newarray .int, 2) := by decide +kernel
theorem dX6_init_9 : decode cX6_init 9 = .ok (.putfield 9, 3) := by decide +kernel
theorem dX6_init_12 : decode cX6_init 12 = .ok (.aload_n 0, 1) := by decide +kernel
theorem dX6_init_13 : decode cX6_init 13 = .ok (.bipush 32, 2) := by decide +kernel
theorem dX6_init_15 : decode cX6_init 15 = .ok (.newarray .int, 2) := by decide +kernel
theorem dX6_init_17 : decode cX6_init 17 = .ok (.putfield 15, 3) := by decide +kernel
theorem dX6_init_20 : decode cX6_init 20 = .ok (.aload_n 0, 1) := by decide +kernel
theorem dX6_init_21 : decode cX6_init 21 = .ok (.getfield 15, 3) := by decide +kernel
theorem dX6_init_24 : decode cX6_init 24 = .ok (.iconst (-1), 1) := by decide +kernel
theorem dX6_init_25 : decode cX6_init 25 = .ok (.invokestatic 18, 3) := by decide +kernel
theorem dX6_init_28 : decode cX6_init 28 = .ok (.return_, 1) := by decide +kernel
theorem dX6_has_0 : decode cX6_has 0 = .ok (.iload_n 1, 1) := by decide +kernel
theorem dX6_has_1 : decode cX6_has 1 = .ok (.iconst 1, 1) := by decide +kernel
theorem dX6_has_2 : decode cX6_has 2 = .ok (.if_icmp .lt 28, 3) := by decide +kernel
theorem dX6_has_5 : decode cX6_has 5 = .ok (.iload_n 1, 1) := by decide +kernel
theorem dX6_has_6 : decode cX6_has 6 = .ok (.bipush 32, 2) := by decide +kernel
theorem dX6_has_8 : decode cX6_has 8 = .ok (.if_icmp .ge 22, 3) := by decide +kernel
theorem dX6_has_11 : decode cX6_has 11 = .ok (.aload_n 0, 1) := by decide +kernel
theorem dX6_has_12 : decode cX6_has 12 = .ok (.getfield 9, 3) := by decide +kernel
theorem dX6_has_15 : decode cX6_has 15 = .ok (.iload_n 1, 1) := by decide +kernel
theorem dX6_has_16 : decode cX6_has 16 = .ok (.iaload, 1) := by decide +kernel
theorem dX6_has_17 : decode cX6_has 17 = .ok (.aload_n 0, 1) := by decide +kernel
theorem dX6_has_18 : decode cX6_has 18 = .ok (.getfield 15, 3) := by decide +kernel
theorem dX6_has_21 : decode cX6_has 21 = .ok (.iload_n 1, 1) := by decide +kernel
theorem dX6_has_22 : decode cX6_has 22 = .ok (.iaload, 1) := by decide +kernel
theorem dX6_has_23 : decode cX6_has 23 = .ok (.if_icmp .gt 7, 3) := by decide +kernel
theorem dX6_has_26 : decode cX6_has 26 = .ok (.iconst 1, 1) := by decide +kernel
theorem dX6_has_27 : decode cX6_has 27 = .ok (.goto 4, 3) := by decide +kernel
theorem dX6_has_30 : decode cX6_has 30 = .ok (.iconst 0, 1) := by decide +kernel
theorem dX6_has_31 : decode cX6_has 31 = .ok (.ireturn, 1) := by decide +kernel
theorem dX6_halve_0 : decode cX6_halve 0 = .ok (.aload_n 0, 1) := by decide +kernel
theorem dX6_halve_1 : decode cX6_halve 1 = .ok (.getfield 15, 3) := by decide +kernel
theorem dX6_halve_4 : decode cX6_halve 4 = .ok (.iconst 1, 1) := by decide +kernel
theorem dX6_halve_5 : decode cX6_halve 5 = .ok (.iload_n 1, 1) := by decide +kernel
theorem dX6_halve_6 : decode cX6_halve 6 = .ok (.iconst 1, 1) := by decide +kernel
theorem dX6_halve_7 : decode cX6_halve 7 = .ok (.isub, 1) := by decide +kernel
theorem dX6_halve_8 : decode cX6_halve 8 = .ok (.iastore, 1) := by decide +kernel
theorem dX6_halve_9 : decode cX6_halve 9 = .ok (.iconst 2, 1) := by decide +kernel
theorem dX6_halve_10 : decode cX6_halve 10 = .ok (.istore_n 2, 1) := by decide +kernel
theorem dX6_halve_11 : decode cX6_halve 11 = .ok (.iload_n 2, 1) := by decide +kernel
theorem dX6_halve_12 : decode cX6_halve 12 = .ok (.bipush 32, 2) := by decide +kernel
theorem dX6_halve_14 : decode cX6_halve 14 = .ok (.if_icmp .ge 121, 3) := by decide +kernel
theorem dX6_halve_17 : decode cX6_halve 17 = .ok (.iload_n 2, 1) := by decide +kernel
theorem dX6_halve_18 : decode cX6_halve 18 = .ok (.iconst 2, 1) := by decide +kernel
theorem dX6_halve_19 : decode cX6_halve 19 = .ok (.idiv, 1) := by decide +kernel
theorem dX6_halve_20 : decode cX6_halve 20 = .ok (.istore_n 3, 1) := by decide +kernel
theorem dX6_halve_21 : decode cX6_halve 21 = .ok (.aload_n 0, 1) := by decide +kernel
theorem dX6_halve_22 : decode cX6_halve 22 = .ok (.getfield 9, 3) := by decide +kernel
theorem dX6_halve_25 : decode cX6_halve 25 = .ok (.iload_n 3, 1) := by decide +kernel
theorem dX6_halve_26 : decode cX6_halve 26 = .ok (.iaload, 1) := by decide +kernel
theorem dX6_halve_27 : decode cX6_halve 27 = .ok (.aload_n 0, 1) := by decide +kernel
theorem dX6_halve_28 : decode cX6_halve 28 = .ok (.getfield 15, 3) := by decide +kernel
theorem dX6_halve_31 : decode cX6_halve 31 = .ok (.iload_n 3, 1) := by decide +kernel
theorem dX6_halve_32 : decode cX6_halve 32 = .ok (.iaload, 1) := by decide +kernel
theorem dX6_halve_33 : decode cX6_halve 33 = .ok (.if_icmp .lt 20, 3) := by decide +kernel
theorem dX6_halve_36 : decode cX6_halve 36 = .ok (.aload_n 0, 1) := by decide +kernel
theorem dX6_halve_37 : decode cX6_halve 37 = .ok (.getfield 9, 3) := by decide +kernel
theorem dX6_halve_40 : decode cX6_halve 40 = .ok (.iload_n 2, 1) := by decide +kernel
theorem dX6_halve_41 : decode cX6_halve 41 = .ok (.iconst 0, 1) := by decide +kernel
theorem dX6_halve_42 : decode cX6_halve 42 = .ok (.iastore, 1) := by decide +kernel
theorem dX6_halve_43 : decode cX6_halve 43 = .ok (.aload_n 0, 1) := by decide +kernel
theorem dX6_halve_44 : decode cX6_halve 44 = .ok (.getfield 15, 3) := by decide +kernel
theorem dX6_halve_47 : decode cX6_halve 47 = .ok (.iload_n 2, 1) := by decide +kernel
theorem dX6_halve_48 : decode cX6_halve 48 = .ok (.iconst (-1), 1) := by decide +kernel
theorem dX6_halve_49 : decode cX6_halve 49 = .ok (.iastore, 1) := by decide +kernel
theorem dX6_halve_50 : decode cX6_halve 50 = .ok (.goto 79, 3) := by decide +kernel
theorem dX6_halve_53 : decode cX6_halve 53 = .ok (.aload_n 0, 1) := by decide +kernel
theorem dX6_halve_54 : decode cX6_halve 54 = .ok (.getfield 9, 3) := by decide +kernel
theorem dX6_halve_57 : decode cX6_halve 57 = .ok (.iload_n 3, 1) := by decide +kernel
theorem dX6_halve_58 : decode cX6_halve 58 = .ok (.iaload, 1) := by decide +kernel
theorem dX6_halve_59 : decode cX6_halve 59 = .ok (.aload_n 0, 1) := by decide +kernel
theorem dX6_halve_60 : decode cX6_halve 60 = .ok (.getfield 15, 3) := by decide +kernel
theorem dX6_halve_63 : decode cX6_halve 63 = .ok (.iload_n 3, 1) := by decide +kernel
theorem dX6_halve_64 : decode cX6_halve 64 = .ok (.iaload, 1) := by decide +kernel
theorem dX6_halve_65 : decode cX6_halve 65 = .ok (.iadd, 1) := by decide +kernel
theorem dX6_halve_66 : decode cX6_halve 66 = .ok (.iconst 2, 1) := by decide +kernel
theorem dX6_halve_67 : decode cX6_halve 67 = .ok (.idiv, 1) := by decide +kernel
theorem dX6_halve_68 : decode cX6_halve 68 = .ok (.istore 4, 2) := by decide +kernel
theorem dX6_halve_70 : decode cX6_halve 70 = .ok (.iload_n 2, 1) := by decide +kernel
theorem dX6_halve_71 : decode cX6_halve 71 = .ok (.iconst 2, 1) := by decide +kernel
theorem dX6_halve_72 : decode cX6_halve 72 = .ok (.irem, 1) := by decide +kernel
theorem dX6_halve_73 : decode cX6_halve 73 = .ok (.ifCond .ne 7, 3) := by decide +kernel
theorem dX6_halve_76 : decode cX6_halve 76 = .ok (.iconst 1, 1) := by decide +kernel
theorem dX6_halve_77 : decode cX6_halve 77 = .ok (.goto 4, 3) := by decide +kernel
theorem dX6_halve_80 : decode cX6_halve 80 = .ok (.iconst 0, 1) := by decide +kernel
theorem dX6_halve_81 : decode cX6_halve 81 = .ok (.istore 5, 2) := by decide +kernel
theorem dX6_halve_83 : decode cX6_halve 83 = .ok (.aload_n 0, 1) := by decide +kernel
theorem dX6_halve_84 : decode cX6_halve 84 = .ok (.getfield 9, 3) := by decide +kernel
theorem dX6_halve_87 : decode cX6_halve 87 = .ok (.iload_n 2, 1) := by decide +kernel
theorem dX6_halve_88 : decode cX6_halve 88 = .ok (.iload 5, 2) := by decide +kernel
theorem dX6_halve_90 : decode cX6_halve 90 = .ok (.ifCond .eq 12, 3) := by decide +kernel
theorem dX6_halve_93 : decode cX6_halve 93 = .ok (.aload_n 0, 1) := by decide +kernel
theorem dX6_halve_94 : decode cX6_halve 94 = .ok (.getfield 9, 3) := by decide +kernel
theorem dX6_halve_97 : decode cX6_halve 97 = .ok (.iload_n 3, 1) := by decide +kernel
theorem dX6_halve_98 : decode cX6_halve 98 = .ok (.iaload, 1) := by decide +kernel
theorem dX6_halve_99 : decode cX6_halve 99 = .ok (.goto 7, 3) := by decide +kernel
theorem dX6_halve_102 : decode cX6_halve 102 = .ok (.iload 4, 2) := by decide +kernel
theorem dX6_halve_104 : decode cX6_halve 104 = .ok (.iconst 1, 1) := by decide +kernel
theorem dX6_halve_105 : decode cX6_halve 105 = .ok (.iadd, 1) := by decide +kernel
theorem dX6_halve_106 : decode cX6_halve 106 = .ok (.iastore, 1) := by decide +kernel
theorem dX6_halve_107 : decode cX6_halve 107 = .ok (.aload_n 0, 1) := by decide +kernel
theorem dX6_halve_108 : decode cX6_halve 108 = .ok (.getfield 15, 3) := by decide +kernel
theorem dX6_halve_111 : decode cX6_halve 111 = .ok (.iload_n 2, 1) := by decide +kernel
theorem dX6_halve_112 : decode cX6_halve 112 = .ok (.iload 5, 2) := by decide +kernel
theorem dX6_halve_114 : decode cX6_halve 114 = .ok (.ifCond .eq 8, 3) := by decide +kernel
theorem dX6_halve_117 : decode cX6_halve 117 = .ok (.iload 4, 2) := by decide +kernel
theorem dX6_halve_119 : decode cX6_halve 119 = .ok (.goto 9, 3) := by decide +kernel
theorem dX6_halve_122 : decode cX6_halve 122 = .ok (.aload_n 0, 1) := by decide +kernel
theorem dX6_halve_123 : decode cX6_halve 123 = .ok (.getfield 15, 3) := by decide +kernel
theorem dX6_halve_126 : decode cX6_halve 126 = .ok (.iload_n 3, 1) := by decide +kernel
theorem dX6_halve_127 : decode cX6_halve 127 = .ok (.iaload, 1) := by decide +kernel
theorem dX6_halve_128 : decode cX6_halve 128 = .ok (.iastore, 1) := by decide +kernel
theorem dX6_halve_129 : decode cX6_halve 129 = .ok (.iinc 2 1, 3) := by decide +kernel
theorem dX6_halve_132 : decode cX6_halve 132 = .ok (.goto (-121), 3) := by decide +kernel
theorem dX6_halve_135 : decode cX6_halve 135 = .ok (.return_, 1) := by decide +kernel
set_option maxRecDepth 20000 in
theorem ggX6_count_X6_has : GoodIn wsX6_count wsX6_has := goodIn_r _ [5, 6, 7, 8, 9] (by decide +kernel) (by decide +kernel)
set_option maxRecDepth 20000 in
theorem gX6_count_X6_has : GoodIn wsX6_count (wsV RX6 24 RX6 yX6_has wsX6_has) := goodIn_app (goodIn_of _ (by decide +kernel)) ggX6_count_X6_has
theorem dX6_count_0 : decode cX6_count 0 = .ok (.iconst 0, 1) := by decide +kernel
theorem dX6_count_1 : decode cX6_count 1 = .ok (.istore_n 1, 1) := by decide +kernel
theorem dX6_count_2 : decode cX6_count 2 = .ok (.iconst 1, 1) := by decide +kernel
theorem dX6_count_3 : decode cX6_count 3 = .ok (.istore_n 2, 1) := by decide +kernel
theorem dX6_count_4 : decode cX6_count 4 = .ok (.iload_n 2, 1) := by decide +kernel
theorem dX6_count_5 : decode cX6_count 5 = .ok (.bipush 32, 2) := by decide +kernel
theorem dX6_count_7 : decode cX6_count 7 = .ok (.if_icmp .ge 20, 3) := by decide +kernel
theorem dX6_count_10 : decode cX6_count 10 = .ok (.aload_n 0, 1) := by decide +kernel
theorem dX6_count_11 : decode cX6_count 11 = .ok (.iload_n 2, 1) := by decide +kernel
theorem dX6_count_12 : decode cX6_count 12 = .ok (.invokevirtual 24, 3) := by decide +kernel
theorem dX6_count_15 : decode cX6_count 15 = .ok (.ifCond .eq 6, 3) := by decide +kernel
theorem dX6_count_18 : decode cX6_count 18 = .ok (.iinc 1 1, 3) := by decide +kernel
theorem dX6_count_21 : decode cX6_count 21 = .ok (.iinc 2 1, 3) := by decide +kernel
theorem dX6_count_24 : decode cX6_count 24 = .ok (.goto (-20), 3) := by decide +kernel
theorem dX6_count_27 : decode cX6_count 27 = .ok (.iload_n 1, 1) := by decide +kernel
theorem dX6_count_28 : decode cX6_count 28 = .ok (.ireturn, 1) := by decide +kernel
set_option maxRecDepth 20000 in
theorem ggX7_init_X1_init : GoodIn wsX7_init wsX1_init := goodIn_r _ [12, 13, 2, 3, 14, 5, 15, 16, 20, 21, 22] (by decide +kernel) (by decide +kernel)
set_option maxRecDepth 20000 in
theorem gX7_init_X1_init_n21 : GoodIn wsX7_init (wsX1_init) := ggX7_init_X1_init
theorem dX7_init_0 : decode cX7_init 0 = .ok (.aload_n 0, 1) := by decide +kernel
theorem dX7_init_1 : decode cX7_init 1 = .ok (.invokespecial 3, 3) := by decide +kernel
theorem dX7_init_4 : decode cX7_init 4 = .ok (.aload_n 0, 1) := by decide +kernel
theorem dX7_init_5 : decode cX7_init 5 = .ok (.iconst 0, 1) := by decide +kernel
theorem dX7_init_6 : decode cX7_init 6 = .ok (.putfield 9, 3) := by decide +kernel
theorem dX7_init_9 : decode cX7_init 9 = .ok (.aload_n 0, 1) := by decide +kernel
theorem dX7_init_10 : decode cX7_init 10 = .ok (.bipush 16, 2) := by decide +kernel
theorem dX7_init_12 : decode cX7_init 12 = .ok (.newarray .int, 2) := by decide +kernel
theorem dX7_init_14 : decode cX7_init 14 = .ok (.putfield 15, 3) := by decide +kernel
theorem dX7_init_17 : decode cX7_init 17 = .ok (.aload_n 0, 1) := by decide +kernel
theorem dX7_init_18 : decode cX7_init 18 = .ok (.new 19, 3) := by decide +kernel
theorem dX7_init_21 : decode cX7_init 21 = .ok (.dup, 1) := by decide +kernel
theorem dX7_init_22 : decode cX7_init 22 = .ok (.invokespecial 21, 3) := by decide +kernel
theorem dX7_init_25 : decode cX7_init 25 = .ok (.putfield 22, 3) := by decide +kernel
theorem dX7_init_28 : decode cX7_init 28 = .ok (.return_, 1) := by decide +kernel
set_option maxRecDepth 20000 in
theorem ggX7_firstFault_X7_codeOf : GoodIn wsX7_firstFault wsX7_codeOf := goodIn_r _ [7, 8, 9, 10, 11, 12, 13, 14, 44, 45, 46, 47] (by decide +kernel) (by decide +kernel)
set_option maxRecDepth 20000 in
theorem gX7_firstFault_X7_codeOf : GoodIn wsX7_firstFault (va_wsS RX7 29 yX7_codeOf wsX7_codeOf) := goodIn_app (goodIn_of _ (by decide +kernel)) ggX7_firstFault_X7_codeOf
set_option maxRecDepth 20000 in
theorem ggX7_firstFault_X7_readDigits : GoodIn wsX7_firstFault wsX7_readDigits := goodIn_r _ [18, 19, 1, 4, 5, 6, 7, 8, 9, 10, 11, 12, 13, 14, 20, 21, 22, 38, 39, 40, 44, 45, 46, 47] (by decide +kernel) (by decide +kernel)
set_option maxRecDepth 20000 in
theorem gX7_firstFault_X7_readDigits : GoodIn wsX7_firstFault (wsV RX7 33 RX7 yX7_readDigits wsX7_readDigits) := goodIn_app (goodIn_of _ (by decide +kernel)) ggX7_firstFault_X7_readDigits
set_option maxRecDepth 20000 in
theorem ggX7_firstFault_X7_firstFaultOfHelpers : GoodIn wsX7_firstFault wsX7_firstFaultOfHelpers := goodIn_r _ [26, 1, 2, 4, 5, 6, 7, 8, 9, 10, 11, 12, 13, 14, 27, 28, 29, 20, 21, 22, 30, 31, 32, 33, 34, 35, 36, 37, 38, 39, 40, 44, 45, 46, 47, 41, 42, 43] (by decide +kernel) (by decide +kernel)
set_option maxRecDepth 20000 in
theorem gX7_firstFault_X7_firstFaultOfHelpers : GoodIn wsX7_firstFault (wsV RX7 37 RX7 yX7_firstFaultOfHelpers wsX7_firstFaultOfHelpers) := goodIn_app (goodIn_of _ (by decide +kernel)) ggX7_firstFault_X7_firstFaultOfHelpers
theorem dX7_firstFault_0 : decode cX7_firstFault 0 = .ok (.aload_n 0, 1) := by decide +kernel
theorem dX7_firstFault_1 : decode cX7_firstFault 1 = .ok (.iconst 0, 1) := by decide +kernel
theorem dX7_firstFault_2 : decode cX7_firstFault 2 = .ok (.putfield 9, 3) := by decide +kernel
theorem dX7_firstFault_5 : decode cX7_firstFault 5 = .ok (.aload_n 0, 1) := by decide +kernel
theorem dX7_firstFault_6 : decode cX7_firstFault 6 = .ok (.getfield 22, 3) := by decide +kernel
theorem dX7_firstFault_9 : decode cX7_firstFault 9 = .ok (.iconst 0, 1) := by decide +kernel
theorem dX7_firstFault_10 : decode cX7_firstFault 10 = .ok (.putfield 26, 3) := by decide +kernel
theorem dX7_firstFault_13 : decode cX7_firstFault 13 = .ok (.aload_n 1, 1) := by decide +kernel
theorem dX7_firstFault_14 : decode cX7_firstFault 14 = .ok (.iload_n 2, 1) := by decide +kernel
theorem dX7_firstFault_15 : decode cX7_firstFault 15 = .ok (.iload_n 3, 1) := by decide +kernel
theorem dX7_firstFault_16 : decode cX7_firstFault 16 = .ok (.iconst 0, 1) := by decide +kernel
theorem dX7_firstFault_17 : decode cX7_firstFault 17 = .ok (.invokestatic 29, 3) := by decide +kernel
theorem dX7_firstFault_20 : decode cX7_firstFault 20 = .ok (.bipush 114, 2) := by decide +kernel
theorem dX7_firstFault_22 : decode cX7_firstFault 22 = .ok (.if_icmp .eq 5, 3) := by decide +kernel
theorem dX7_firstFault_25 : decode cX7_firstFault 25 = .ok (.iconst 0, 1) := by decide +kernel
theorem dX7_firstFault_26 : decode cX7_firstFault 26 = .ok (.ireturn, 1) := by decide +kernel
theorem dX7_firstFault_27 : decode cX7_firstFault 27 = .ok (.aload_n 0, 1) := by decide +kernel
theorem dX7_firstFault_28 : decode cX7_firstFault 28 = .ok (.aload_n 1, 1) := by decide +kernel
theorem dX7_firstFault_29 : decode cX7_firstFault 29 = .ok (.iload_n 2, 1) := by decide +kernel
theorem dX7_firstFault_30 : decode cX7_firstFault 30 = .ok (.iload_n 3, 1) := by decide +kernel
theorem dX7_firstFault_31 : decode cX7_firstFault 31 = .ok (.invokevirtual 33, 3) := by decide +kernel
theorem dX7_firstFault_34 : decode cX7_firstFault 34 = .ok (.aload_n 0, 1) := by decide +kernel
theorem dX7_firstFault_35 : decode cX7_firstFault 35 = .ok (.getfield 9, 3) := by decide +kernel
theorem dX7_firstFault_38 : decode cX7_firstFault 38 = .ok (.ifCond .ne 7, 3) := by decide +kernel
theorem dX7_firstFault_41 : decode cX7_firstFault 41 = .ok (.iconst 1, 1) := by decide +kernel
theorem dX7_firstFault_42 : decode cX7_firstFault 42 = .ok (.goto 10, 3) := by decide +kernel
theorem dX7_firstFault_45 : decode cX7_firstFault 45 = .ok (.aload_n 0, 1) := by decide +kernel
theorem dX7_firstFault_46 : decode cX7_firstFault 46 = .ok (.aload_n 1, 1) := by decide +kernel
theorem dX7_firstFault_47 : decode cX7_firstFault 47 = .ok (.iload_n 2, 1) := by decide +kernel
theorem dX7_firstFault_48 : decode cX7_firstFault 48 = .ok (.iload_n 3, 1) := by decide +kernel
theorem dX7_firstFault_49 : decode cX7_firstFault 49 = .ok (.invokevirtual 37, 3) := by decide +kernel
theorem dX7_firstFault_52 : decode cX7_firstFault 52 = .ok (.ireturn, 1) := by decide +kernel
set_option maxRecDepth 20000 in
theorem ggX7_readDigits_X7_codeOf : GoodIn wsX7_readDigits wsX7_codeOf := goodIn_r _ [6, 7, 8, 9, 10, 11, 12, 13, 20, 21, 22, 23] (by decide +kernel) (by decide +kernel)
set_option maxRecDepth 20000 in
theorem gX7_readDigits_X7_codeOf : GoodIn wsX7_readDigits (va_wsS RX7 29 yX7_codeOf wsX7_codeOf) := goodIn_app (goodIn_of _ (by decide +kernel)) ggX7_readDigits_X7_codeOf
set_option maxRecDepth 20000 in
theorem ggX7_readDigits_X7_isDigit : GoodIn wsX7_readDigits wsX7_isDigit := goodIn_r _ [16] (by decide +kernel) (by decide +kernel)
set_option maxRecDepth 20000 in
theorem gX7_readDigits_X7_isDigit : GoodIn wsX7_readDigits (va_wsS RX7 41 yX7_isDigit wsX7_isDigit) := goodIn_app (goodIn_of _ (by decide +kernel)) ggX7_readDigits_X7_isDigit
theorem dX7_readDigits_0 : decode cX7_readDigits 0 = .ok (.iconst 0, 1) := by decide +kernel
theorem dX7_readDigits_1 : decode cX7_readDigits 1 = .ok (.istore 4, 2) := by decide +kernel
theorem dX7_readDigits_3 : decode cX7_readDigits 3 = .ok (.iload 4, 2) := by decide +kernel
theorem dX7_readDigits_5 : decode cX7_readDigits 5 = .ok (.bipush 16, 2) := by decide +kernel
theorem dX7_readDigits_7 : decode cX7_readDigits 7 = .ok (.if_icmp .ge 50, 3) := by decide +kernel
theorem dX7_readDigits_10 : decode cX7_readDigits 10 = .ok (.aload_n 1, 1) := by decide +kernel
theorem dX7_readDigits_11 : decode cX7_readDigits 11 = .ok (.iload_n 2, 1) := by decide +kernel
theorem dX7_readDigits_12 : decode cX7_readDigits 12 = .ok (.iload_n 3, 1) := by decide +kernel
theorem dX7_readDigits_13 : decode cX7_readDigits 13 = .ok (.iconst 1, 1) := by decide +kernel
theorem dX7_readDigits_14 : decode cX7_readDigits 14 = .ok (.iload 4, 2) := by decide +kernel
theorem dX7_readDigits_16 : decode cX7_readDigits 16 = .ok (.iadd, 1) := by decide +kernel
theorem dX7_readDigits_17 : decode cX7_readDigits 17 = .ok (.invokestatic 29, 3) := by decide +kernel
theorem dX7_readDigits_20 : decode cX7_readDigits 20 = .ok (.istore 5, 2) := by decide +kernel
theorem dX7_readDigits_22 : decode cX7_readDigits 22 = .ok (.iload 5, 2) := by decide +kernel
theorem dX7_readDigits_24 : decode cX7_readDigits 24 = .ok (.invokestatic 41, 3) := by decide +kernel
theorem dX7_readDigits_27 : decode cX7_readDigits 27 = .ok (.ifCond .ne 4, 3) := by decide +kernel
theorem dX7_readDigits_30 : decode cX7_readDigits 30 = .ok (.return_, 1) := by decide +kernel
theorem dX7_readDigits_31 : decode cX7_readDigits 31 = .ok (.aload_n 0, 1) := by decide +kernel
theorem dX7_readDigits_32 : decode cX7_readDigits 32 = .ok (.getfield 15, 3) := by decide +kernel
theorem dX7_readDigits_35 : decode cX7_readDigits 35 = .ok (.iload 4, 2) := by decide +kernel
theorem dX7_readDigits_37 : decode cX7_readDigits 37 = .ok (.iload 5, 2) := by decide +kernel
theorem dX7_readDigits_39 : decode cX7_readDigits 39 = .ok (.bipush 48, 2) := by decide +kernel
theorem dX7_readDigits_41 : decode cX7_readDigits 41 = .ok (.isub, 1) := by decide +kernel
theorem dX7_readDigits_42 : decode cX7_readDigits 42 = .ok (.iastore, 1) := by decide +kernel
theorem dX7_readDigits_43 : decode cX7_readDigits 43 = .ok (.aload_n 0, 1) := by decide +kernel
theorem dX7_readDigits_44 : decode cX7_readDigits 44 = .ok (.iload 4, 2) := by decide +kernel
theorem dX7_readDigits_46 : decode cX7_readDigits 46 = .ok (.iconst 1, 1) := by decide +kernel
theorem dX7_readDigits_47 : decode cX7_readDigits 47 = .ok (.iadd, 1) := by decide +kernel
theorem dX7_readDigits_48 : decode cX7_readDigits 48 = .ok (.putfield 9, 3) := by decide +kernel
theorem dX7_readDigits_51 : decode cX7_readDigits 51 = .ok (.iinc 4 1, 3) := by decide +kernel
theorem dX7_readDigits_54 : decode cX7_readDigits 54 = .ok (.goto (-51), 3) := by decide +kernel
theorem dX7_readDigits_57 : decode cX7_readDigits 57 = .ok (.return_, 1) := by decide +kernel
set_option maxRecDepth 20000 in
theorem ggX7_firstFaultOfHelpers_X7_codeOf : GoodIn wsX7_firstFaultOfHelpers wsX7_codeOf := goodIn_r _ [6, 7, 8, 9, 10, 11, 12, 13, 31, 32, 33, 34] (by decide +kernel) (by decide +kernel)
set_option maxRecDepth 20000 in
theorem gX7_firstFaultOfHelpers_X7_codeOf : GoodIn wsX7_firstFaultOfHelpers (va_wsS RX7 29 yX7_codeOf wsX7_codeOf) := goodIn_app (goodIn_of _ (by decide +kernel)) ggX7_firstFaultOfHelpers_X7_codeOf
set_option maxRecDepth 20000 in
theorem ggX7_firstFaultOfHelpers_X7_kindOf : GoodIn wsX7_firstFaultOfHelpers wsX7_kindOf := goodIn_r _ [16] (by decide +kernel) (by decide +kernel)
set_option maxRecDepth 20000 in
theorem gX7_firstFaultOfHelpers_X7_kindOf : GoodIn wsX7_firstFaultOfHelpers (va_wsS RX7 45 yX7_kindOf wsX7_kindOf) := goodIn_app (goodIn_of _ (by decide +kernel)) ggX7_firstFaultOfHelpers_X7_kindOf
set_option maxRecDepth 20000 in
theorem ggX7_firstFaultOfHelpers_X7_isDigit : GoodIn wsX7_firstFaultOfHelpers wsX7_isDigit := goodIn_r _ [19] (by decide +kernel) (by decide +kernel)
set_option maxRecDepth 20000 in
theorem gX7_firstFaultOfHelpers_X7_isDigit : GoodIn wsX7_firstFaultOfHelpers (va_wsS RX7 41 yX7_isDigit wsX7_isDigit) := goodIn_app (goodIn_of _ (by decide +kernel)) ggX7_firstFaultOfHelpers_X7_isDigit
set_option maxRecDepth 20000 in
theorem ggX7_firstFaultOfHelpers_X1_join : GoodIn wsX7_firstFaultOfHelpers wsX1_join := goodIn_r _ [24, 25, 26, 27, 35, 36, 37] (by decide +kernel) (by decide +kernel)
set_option maxRecDepth 20000 in
theorem gX7_firstFaultOfHelpers_X1_join : GoodIn wsX7_firstFaultOfHelpers (wsV RX7 49 RX1 yX1_join wsX1_join) := goodIn_app (goodIn_of _ (by decide +kernel)) ggX7_firstFaultOfHelpers_X1_join
theorem dX7_firstFaultOfHelpers_0 : decode cX7_firstFaultOfHelpers 0 = .ok (.iconst 1, 1) := by decide +kernel
theorem dX7_firstFaultOfHelpers_1 : decode cX7_firstFaultOfHelpers 1 = .ok (.aload_n 0, 1) := by decide +kernel
theorem dX7_firstFaultOfHelpers_2 : decode cX7_firstFaultOfHelpers 2 = .ok (.getfield 9, 3) := by decide +kernel
theorem dX7_firstFaultOfHelpers_5 : decode cX7_firstFaultOfHelpers 5 = .ok (.iadd, 1) := by decide +kernel
theorem dX7_firstFaultOfHelpers_6 : decode cX7_firstFaultOfHelpers 6 = .ok (.istore 4, 2) := by decide +kernel
theorem dX7_firstFaultOfHelpers_8 : decode cX7_firstFaultOfHelpers 8 = .ok (.iconst 0, 1) := by decide +kernel
theorem dX7_firstFaultOfHelpers_9 : decode cX7_firstFaultOfHelpers 9 = .ok (.istore 5, 2) := by decide +kernel
theorem dX7_firstFaultOfHelpers_11 : decode cX7_firstFaultOfHelpers 11 = .ok (.iload 5, 2) := by decide +kernel
theorem dX7_firstFaultOfHelpers_13 : decode cX7_firstFaultOfHelpers 13 = .ok (.iconst 3, 1) := by decide +kernel
theorem dX7_firstFaultOfHelpers_14 : decode cX7_firstFaultOfHelpers 14 = .ok (.if_icmp .ge 100, 3) := by decide +kernel
theorem dX7_firstFaultOfHelpers_17 : decode cX7_firstFaultOfHelpers 17 = .ok (.iload 4, 2) := by decide +kernel
theorem dX7_firstFaultOfHelpers_19 : decode cX7_firstFaultOfHelpers 19 = .ok (.iload_n 3, 1) := by decide +kernel
theorem dX7_firstFaultOfHelpers_20 : decode cX7_firstFaultOfHelpers 20 = .ok (.if_icmp .ge 94, 3) := by decide +kernel
theorem dX7_firstFaultOfHelpers_23 : decode cX7_firstFaultOfHelpers 23 = .ok (.aload_n 1, 1) := by decide +kernel
theorem dX7_firstFaultOfHelpers_24 : decode cX7_firstFaultOfHelpers 24 = .ok (.iload_n 2, 1) := by decide +kernel
theorem dX7_firstFaultOfHelpers_25 : decode cX7_firstFaultOfHelpers 25 = .ok (.iload_n 3, 1) := by decide +kernel
theorem dX7_firstFaultOfHelpers_26 : decode cX7_firstFaultOfHelpers 26 = .ok (.iload 4, 2) := by decide +kernel
theorem dX7_firstFaultOfHelpers_28 : decode cX7_firstFaultOfHelpers 28 = .ok (.iconst 1, 1) := by decide +kernel
theorem dX7_firstFaultOfHelpers_29 : decode cX7_firstFaultOfHelpers 29 = .ok (.iadd, 1) := by decide +kernel
theorem dX7_firstFaultOfHelpers_30 : decode cX7_firstFaultOfHelpers 30 = .ok (.invokestatic 29, 3) := by decide +kernel
theorem dX7_firstFaultOfHelpers_33 : decode cX7_firstFaultOfHelpers 33 = .ok (.invokestatic 45, 3) := by decide +kernel
theorem dX7_firstFaultOfHelpers_36 : decode cX7_firstFaultOfHelpers 36 = .ok (.istore 6, 2) := by decide +kernel
theorem dX7_firstFaultOfHelpers_38 : decode cX7_firstFaultOfHelpers 38 = .ok (.aload_n 1, 1) := by decide +kernel
theorem dX7_firstFaultOfHelpers_39 : decode cX7_firstFaultOfHelpers 39 = .ok (.iload_n 2, 1) := by decide +kernel
theorem dX7_firstFaultOfHelpers_40 : decode cX7_firstFaultOfHelpers 40 = .ok (.iload_n 3, 1) := by decide +kernel
theorem dX7_firstFaultOfHelpers_41 : decode cX7_firstFaultOfHelpers 41 = .ok (.iload 4, 2) := by decide +kernel
theorem dX7_firstFaultOfHelpers_43 : decode cX7_firstFaultOfHelpers 43 = .ok (.iconst 2, 1) := by decide +kernel
theorem dX7_firstFaultOfHelpers_44 : decode cX7_firstFaultOfHelpers 44 = .ok (.iadd, 1) := by decide +kernel
theorem dX7_firstFaultOfHelpers_45 : decode cX7_firstFaultOfHelpers 45 = .ok (.invokestatic 29, 3) := by decide +kernel
theorem dX7_firstFaultOfHelpers_48 : decode cX7_firstFaultOfHelpers 48 = .ok (.istore 7, 2) := by decide +kernel
theorem dX7_firstFaultOfHelpers_50 : decode cX7_firstFaultOfHelpers 50 = .ok (.aload_n 1, 1) := by decide +kernel
theorem dX7_firstFaultOfHelpers_51 : decode cX7_firstFaultOfHelpers 51 = .ok (.iload_n 2, 1) := by decide +kernel
theorem dX7_firstFaultOfHelpers_52 : decode cX7_firstFaultOfHelpers 52 = .ok (.iload_n 3, 1) := by decide +kernel
theorem dX7_firstFaultOfHelpers_53 : decode cX7_firstFaultOfHelpers 53 = .ok (.iload 4, 2) := by decide +kernel
theorem dX7_firstFaultOfHelpers_55 : decode cX7_firstFaultOfHelpers 55 = .ok (.invokestatic 29, 3) := by decide +kernel
theorem dX7_firstFaultOfHelpers_58 : decode cX7_firstFaultOfHelpers 58 = .ok (.bipush 59, 2) := by decide +kernel
theorem dX7_firstFaultOfHelpers_60 : decode cX7_firstFaultOfHelpers 60 = .ok (.if_icmp .eq 6, 3) := by decide +kernel
theorem dX7_firstFaultOfHelpers_63 : decode cX7_firstFaultOfHelpers 63 = .ok (.iload 4, 2) := by decide +kernel
theorem dX7_firstFaultOfHelpers_65 : decode cX7_firstFaultOfHelpers 65 = .ok (.ireturn, 1) := by decide +kernel
theorem dX7_firstFaultOfHelpers_66 : decode cX7_firstFaultOfHelpers 66 = .ok (.iload 6, 2) := by decide +kernel
theorem dX7_firstFaultOfHelpers_68 : decode cX7_firstFaultOfHelpers 68 = .ok (.bipush (-9), 2) := by decide +kernel
theorem dX7_firstFaultOfHelpers_70 : decode cX7_firstFaultOfHelpers 70 = .ok (.if_icmp .ne 8, 3) := by decide +kernel
theorem dX7_firstFaultOfHelpers_73 : decode cX7_firstFaultOfHelpers 73 = .ok (.iload 4, 2) := by decide +kernel
theorem dX7_firstFaultOfHelpers_75 : decode cX7_firstFaultOfHelpers 75 = .ok (.iconst 1, 1) := by decide +kernel
theorem dX7_firstFaultOfHelpers_76 : decode cX7_firstFaultOfHelpers 76 = .ok (.iadd, 1) := by decide +kernel
theorem dX7_firstFaultOfHelpers_77 : decode cX7_firstFaultOfHelpers 77 = .ok (.ireturn, 1) := by decide +kernel
theorem dX7_firstFaultOfHelpers_78 : decode cX7_firstFaultOfHelpers 78 = .ok (.iload 7, 2) := by decide +kernel
theorem dX7_firstFaultOfHelpers_80 : decode cX7_firstFaultOfHelpers 80 = .ok (.invokestatic 41, 3) := by decide +kernel
theorem dX7_firstFaultOfHelpers_83 : decode cX7_firstFaultOfHelpers 83 = .ok (.ifCond .ne 8, 3) := by decide +kernel
theorem dX7_firstFaultOfHelpers_86 : decode cX7_firstFaultOfHelpers 86 = .ok (.iload 4, 2) := by decide +kernel
theorem dX7_firstFaultOfHelpers_88 : decode cX7_firstFaultOfHelpers 88 = .ok (.iconst 2, 1) := by decide +kernel
theorem dX7_firstFaultOfHelpers_89 : decode cX7_firstFaultOfHelpers 89 = .ok (.iadd, 1) := by decide +kernel
theorem dX7_firstFaultOfHelpers_90 : decode cX7_firstFaultOfHelpers 90 = .ok (.ireturn, 1) := by decide +kernel
theorem dX7_firstFaultOfHelpers_91 : decode cX7_firstFaultOfHelpers 91 = .ok (.aload_n 0, 1) := by decide +kernel
theorem dX7_firstFaultOfHelpers_92 : decode cX7_firstFaultOfHelpers 92 = .ok (.getfield 22, 3) := by decide +kernel
theorem dX7_firstFaultOfHelpers_95 : decode cX7_firstFaultOfHelpers 95 = .ok (.iload 6, 2) := by decide +kernel
theorem dX7_firstFaultOfHelpers_97 : decode cX7_firstFaultOfHelpers 97 = .ok (.iload 7, 2) := by decide +kernel
theorem dX7_firstFaultOfHelpers_99 : decode cX7_firstFaultOfHelpers 99 = .ok (.bipush 48, 2) := by decide +kernel
theorem dX7_firstFaultOfHelpers_101 : decode cX7_firstFaultOfHelpers 101 = .ok (.isub, 1) := by decide +kernel
theorem dX7_firstFaultOfHelpers_102 : decode cX7_firstFaultOfHelpers 102 = .ok (.invokevirtual 49, 3) := by decide +kernel
theorem dX7_firstFaultOfHelpers_105 : decode cX7_firstFaultOfHelpers 105 = .ok (.iinc 4 3, 3) := by decide +kernel
theorem dX7_firstFaultOfHelpers_108 : decode cX7_firstFaultOfHelpers 108 = .ok (.iinc 5 1, 3) := by decide +kernel
theorem dX7_firstFaultOfHelpers_111 : decode cX7_firstFaultOfHelpers 111 = .ok (.goto (-100), 3) := by decide +kernel
theorem dX7_firstFaultOfHelpers_114 : decode cX7_firstFaultOfHelpers 114 = .ok (.iload 4, 2) := by decide +kernel
theorem dX7_firstFaultOfHelpers_116 : decode cX7_firstFaultOfHelpers 116 = .ok (.iload_n 3, 1) := by decide +kernel
theorem dX7_firstFaultOfHelpers_117 : decode cX7_firstFaultOfHelpers 117 = .ok (.if_icmp .ge 8, 3) := by decide +kernel
theorem dX7_firstFaultOfHelpers_120 : decode cX7_firstFaultOfHelpers 120 = .ok (.iload 4, 2) := by decide +kernel
theorem dX7_firstFaultOfHelpers_122 : decode cX7_firstFaultOfHelpers 122 = .ok (.goto 5, 3) := by decide +kernel
theorem dX7_firstFaultOfHelpers_125 : decode cX7_firstFaultOfHelpers 125 = .ok (.bipush (-9), 2) := by decide +kernel
theorem dX7_firstFaultOfHelpers_127 : decode cX7_firstFaultOfHelpers 127 = .ok (.ireturn, 1) := by decide +kernel
set_option maxRecDepth 20000 in
theorem ggX7_codeOf_X5_code : GoodIn wsX7_codeOf wsX5_code := goodIn_r _ [5, 6, 7, 8, 9, 10, 11] (by decide +kernel) (by decide +kernel)
set_option maxRecDepth 20000 in
theorem gX7_codeOf_X5_code : GoodIn wsX7_codeOf (wsV RX7 53 RX5 yX5_code wsX5_code) := goodIn_app (goodIn_of _ (by decide +kernel)) ggX7_codeOf_X5_code
theorem dX7_codeOf_0 : decode cX7_codeOf 0 = .ok (.iload_n 3, 1) := by decide +kernel
theorem dX7_codeOf_1 : decode cX7_codeOf 1 = .ok (.iload_n 2, 1) := by decide +kernel
theorem dX7_codeOf_2 : decode cX7_codeOf 2 = .ok (.if_icmp .ge 13, 3) := by decide +kernel
theorem dX7_codeOf_5 : decode cX7_codeOf 5 = .ok (.aload_n 0, 1) := by decide +kernel
theorem dX7_codeOf_6 : decode cX7_codeOf 6 = .ok (.iload_n 1, 1) := by decide +kernel
theorem dX7_codeOf_7 : decode cX7_codeOf 7 = .ok (.iload_n 3, 1) := by decide +kernel
theorem dX7_codeOf_8 : decode cX7_codeOf 8 = .ok (.iadd, 1) := by decide +kernel
theorem dX7_codeOf_9 : decode cX7_codeOf 9 = .ok (.invokevirtual 53, 3) := by decide +kernel
theorem dX7_codeOf_12 : decode cX7_codeOf 12 = .ok (.goto 5, 3) := by decide +kernel
theorem dX7_codeOf_15 : decode cX7_codeOf 15 = .ok (.bipush (-9), 2) := by decide +kernel
theorem dX7_codeOf_17 : decode cX7_codeOf 17 = .ok (.ireturn, 1) := by decide +kernel
theorem dX7_isDigit_0 : decode cX7_isDigit 0 = .ok (.iload_n 0, 1) := by decide +kernel
theorem dX7_isDigit_1 : decode cX7_isDigit 1 = .ok (.bipush 48, 2) := by decide +kernel
theorem dX7_isDigit_3 : decode cX7_isDigit 3 = .ok (.if_icmp .lt 13, 3) := by decide +kernel
theorem dX7_isDigit_6 : decode cX7_isDigit 6 = .ok (.iload_n 0, 1) := by decide +kernel
theorem dX7_isDigit_7 : decode cX7_isDigit 7 = .ok (.bipush 57, 2) := by decide +kernel
theorem dX7_isDigit_9 : decode cX7_isDigit 9 = .ok (.if_icmp .gt 7, 3) := by decide +kernel
theorem dX7_isDigit_12 : decode cX7_isDigit 12 = .ok (.iconst 1, 1) := by decide +kernel
theorem dX7_isDigit_13 : decode cX7_isDigit 13 = .ok (.goto 4, 3) := by decide +kernel
theorem dX7_isDigit_16 : decode cX7_isDigit 16 = .ok (.iconst 0, 1) := by decide +kernel
theorem dX7_isDigit_17 : decode cX7_isDigit 17 = .ok (.ireturn, 1) := by decide +kernel
theorem dX7_kindOf_0 : decode cX7_kindOf 0 = .ok (.iload_n 0, 1) := by decide +kernel
theorem dX7_kindOf_1 : decode cX7_kindOf 1 = .ok (.lookupswitch 41 #[(98, 37), (100, 39), (112, 35)], 35) := by decide +kernel
theorem dX7_kindOf_36 : decode cX7_kindOf 36 = .ok (.iconst 0, 1) := by decide +kernel
theorem dX7_kindOf_37 : decode cX7_kindOf 37 = .ok (.ireturn, 1) := by decide +kernel
theorem dX7_kindOf_38 : decode cX7_kindOf 38 = .ok (.iconst 1, 1) := by decide +kernel
theorem dX7_kindOf_39 : decode cX7_kindOf 39 = .ok (.ireturn, 1) := by decide +kernel
theorem dX7_kindOf_40 : decode cX7_kindOf 40 = .ok (.iconst 2, 1) := by decide +kernel
theorem dX7_kindOf_41 : decode cX7_kindOf 41 = .ok (.ireturn, 1) := by decide +kernel
theorem dX7_kindOf_42 : decode cX7_kindOf 42 = .ok (.bipush (-9), 2) := by decide +kernel
theorem dX7_kindOf_44 : decode cX7_kindOf 44 = .ok (.ireturn, 1) := by decide +kernel
end
section
set_option maxRecDepth 20000 in
theorem ggX8_init_X7_init : GoodIn wsX8_init wsX7_init := goodIn_r _ [42, 43, 2, 3, 44, 45, 46, 47, 11, 12, 48, 49, 50, 51, 52, 53, 54, 112, 113, 114, 115, 116, 117] (by decide +kernel) (by decide +kernel)
set_option maxRecDepth 20000 in
theorem gX8_init_X7_init_n19 : GoodIn wsX8_init (wsX7_init) := ggX8_init_X7_init
set_option maxRecDepth 20000 in
theorem ggX8_init_X1_init : GoodIn wsX8_init wsX1_init := goodIn_r _ [50, 51, 2, 3, 52, 45, 53, 54, 115, 116, 117] (by decide +kernel) (by decide +kernel)
set_option maxRecDepth 20000 in
theorem gX8_init_X1_init_n26 : GoodIn wsX8_init (wsX1_init) := ggX8_init_X1_init
set_option maxRecDepth 20000 in
theorem ggX8_init_X2_init : GoodIn wsX8_init wsX2_init := goodIn_r _ [57, 58, 2, 3, 59, 60, 61, 20, 21, 62, 63, 64, 65, 66, 67, 68, 118, 119, 120, 121, 122, 123] (by decide +kernel) (by decide +kernel)
set_option maxRecDepth 20000 in
theorem gX8_init_X2_init : GoodIn wsX8_init (wsX2_init) := ggX8_init_X2_init
set_option maxRecDepth 20000 in
theorem ggX8_init_X0_init : GoodIn wsX8_init wsX0_init := goodIn_r _ [63, 64, 2, 3, 65, 66, 67, 68, 120, 121, 122, 123] (by decide +kernel) (by decide +kernel)
set_option maxRecDepth 20000 in
theorem gX8_init_X0_init_n43 : GoodIn wsX8_init (wsX0_init) := ggX8_init_X0_init
set_option maxRecDepth 20000 in
theorem ggX8_init_X3_init : GoodIn wsX8_init wsX3_init := goodIn_r _ [70, 71, 2, 3, 72, 73, 74, 75, 124, 125, 126] (by decide +kernel) (by decide +kernel)
set_option maxRecDepth 20000 in
theorem gX8_init_X3_init_n50 : GoodIn wsX8_init (wsX3_init) := ggX8_init_X3_init
set_option maxRecDepth 20000 in
theorem ggX8_init_X6_init : GoodIn wsX8_init wsX6_init := goodIn_r _ [78, 79, 2, 3, 45, 80, 81, 82, 83, 84, 85, 127, 128] (by decide +kernel) (by decide +kernel)
set_option maxRecDepth 20000 in
theorem gX8_init_X6_init : GoodIn wsX8_init (wsX6_init) := ggX8_init_X6_init
set_option maxRecDepth 20000 in
theorem ggX8_init_X4_init : GoodIn wsX8_init wsX4_init := goodIn_r _ [87, 88, 2, 3, 89, 45, 90, 73, 91, 129, 130, 131] (by decide +kernel) (by decide +kernel)
set_option maxRecDepth 20000 in
theorem gX8_init_X4_init_n70 : GoodIn wsX8_init (wsX4_init) := ggX8_init_X4_init
set_option maxRecDepth 20000 in
theorem ggX8_init_X5_init : GoodIn wsX8_init wsX5_init := goodIn_r _ [93, 94, 2, 3, 95, 96, 97, 45, 98, 132, 133, 134, 135] (by decide +kernel) (by decide +kernel)
set_option maxRecDepth 20000 in
theorem gX8_init_X5_init_n82 : GoodIn wsX8_init (wsX5_init) := ggX8_init_X5_init
theorem dX8_init_0 : decode cX8_init 0 = .ok (.aload_n 0, 1) := by decide +kernel
theorem dX8_init_1 : decode cX8_init 1 = .ok (.invokespecial 3, 3) := by decide +kernel
theorem dX8_init_4 : decode cX8_init 4 = .ok (.aload_n 0, 1) := by decide +kernel
theorem dX8_init_5 : decode cX8_init 5 = .ok (.iconst 4, 1) := by decide +kernel
theorem dX8_init_6 : decode cX8_init 6 = .ok (.anewarray 11, 3) := by decide +kernel
theorem dX8_init_9 : decode cX8_init 9 = .ok (.putfield 13, 3) := by decide +kernel
theorem dX8_init_12 : decode cX8_init 12 = .ok (.aload_n 0, 1) := by decide +kernel
theorem dX8_init_13 : decode cX8_init 13 = .ok (.new 17, 3) := by decide +kernel
theorem dX8_init_16 : decode cX8_init 16 = .ok (.dup, 1) := by decide +kernel
theorem dX8_init_17 : decode cX8_init 17 = .ok (.invokespecial 19, 3) := by decide +kernel
theorem dX8_init_20 : decode cX8_init 20 = .ok (.putfield 20, 3) := by decide +kernel
theorem dX8_init_23 : decode cX8_init 23 = .ok (.aload_n 0, 1) := by decide +kernel
theorem dX8_init_24 : decode cX8_init 24 = .ok (.new 24, 3) := by decide +kernel
theorem dX8_init_27 : decode cX8_init 27 = .ok (.dup, 1) := by decide +kernel
theorem dX8_init_28 : decode cX8_init 28 = .ok (.invokespecial 26, 3) := by decide +kernel
theorem dX8_init_31 : decode cX8_init 31 = .ok (.putfield 27, 3) := by decide +kernel
theorem dX8_init_34 : decode cX8_init 34 = .ok (.aload_n 0, 1) := by decide +kernel
theorem dX8_init_35 : decode cX8_init 35 = .ok (.new 24, 3) := by decide +kernel
theorem dX8_init_38 : decode cX8_init 38 = .ok (.dup, 1) := by decide +kernel
theorem dX8_init_39 : decode cX8_init 39 = .ok (.invokespecial 26, 3) := by decide +kernel
theorem dX8_init_42 : decode cX8_init 42 = .ok (.putfield 31, 3) := by decide +kernel
theorem dX8_init_45 : decode cX8_init 45 = .ok (.aload_n 0, 1) := by decide +kernel
theorem dX8_init_46 : decode cX8_init 46 = .ok (.new 34, 3) := by decide +kernel
theorem dX8_init_49 : decode cX8_init 49 = .ok (.dup, 1) := by decide +kernel
theorem dX8_init_50 : decode cX8_init 50 = .ok (.invokespecial 36, 3) := by decide +kernel
theorem dX8_init_53 : decode cX8_init 53 = .ok (.putfield 37, 3) := by decide +kernel
theorem dX8_init_56 : decode cX8_init 56 = .ok (.aload_n 0, 1) := by decide +kernel
theorem dX8_init_57 : decode cX8_init 57 = .ok (.new 41, 3) := by decide +kernel
theorem dX8_init_60 : decode cX8_init 60 = .ok (.dup, 1) := by decide +kernel
theorem dX8_init_61 : decode cX8_init 61 = .ok (.invokespecial 43, 3) := by decide +kernel
theorem dX8_init_64 : decode cX8_init 64 = .ok (.putfield 44, 3) := by decide +kernel
theorem dX8_init_67 : decode cX8_init 67 = .ok (.aload_n 0, 1) := by decide +kernel
theorem dX8_init_68 : decode cX8_init 68 = .ok (.new 48, 3) := by decide +kernel
theorem dX8_init_71 : decode cX8_init 71 = .ok (.dup, 1) := by decide +kernel
theorem dX8_init_72 : decode cX8_init 72 = .ok (.invokespecial 50, 3) := by decide +kernel
theorem dX8_init_75 : decode cX8_init 75 = .ok (.putfield 51, 3) := by decide +kernel
theorem dX8_init_78 : decode cX8_init 78 = .ok (.aload_n 0, 1) := by decide +kernel
theorem dX8_init_79 : decode cX8_init 79 = .ok (.new 48, 3) := by decide +kernel
theorem dX8_init_82 : decode cX8_init 82 = .ok (.dup, 1) := by decide +kernel
theorem dX8_init_83 : decode cX8_init 83 = .ok (.invokespecial 50, 3) := by decide +kernel
theorem dX8_init_86 : decode cX8_init 86 = .ok (.putfield 55, 3) := by decide +kernel
theorem dX8_init_89 : decode cX8_init 89 = .ok (.aload_n 0, 1) := by decide +kernel
theorem dX8_init_90 : decode cX8_init 90 = .ok (.new 48, 3) := by decide +kernel
theorem dX8_init_93 : decode cX8_init 93 = .ok (.dup, 1) := by decide +kernel
theorem dX8_init_94 : decode cX8_init 94 = .ok (.invokespecial 50, 3) := by decide +kernel
theorem dX8_init_97 : decode cX8_init 97 = .ok (.putfield 58, 3) := by decide +kernel
theorem dX8_init_100 : decode cX8_init 100 = .ok (.aload_n 0, 1) := by decide +kernel
theorem dX8_init_101 : decode cX8_init 101 = .ok (.new 61, 3) := by decide +kernel
theorem dX8_init_104 : decode cX8_init 104 = .ok (.dup, 1) := by decide +kernel
theorem dX8_init_105 : decode cX8_init 105 = .ok (.invokespecial 63, 3) := by decide +kernel
theorem dX8_init_108 : decode cX8_init 108 = .ok (.putfield 64, 3) := by decide +kernel
theorem dX8_init_111 : decode cX8_init 111 = .ok (.aload_n 0, 1) := by decide +kernel
theorem dX8_init_112 : decode cX8_init 112 = .ok (.new 68, 3) := by decide +kernel
theorem dX8_init_115 : decode cX8_init 115 = .ok (.dup, 1) := by decide +kernel
theorem dX8_init_116 : decode cX8_init 116 = .ok (.invokespecial 70, 3) := by decide +kernel
theorem dX8_init_119 : decode cX8_init 119 = .ok (.putfield 71, 3) := by decide +kernel
theorem dX8_init_122 : decode cX8_init 122 = .ok (.aload_n 0, 1) := by decide +kernel
theorem dX8_init_123 : decode cX8_init 123 = .ok (.iconst 0, 1) := by decide +kernel
theorem dX8_init_124 : decode cX8_init 124 = .ok (.putfield 75, 3) := by decide +kernel
theorem dX8_init_127 : decode cX8_init 127 = .ok (.aload_n 0, 1) := by decide +kernel
theorem dX8_init_128 : decode cX8_init 128 = .ok (.iconst 0, 1) := by decide +kernel
theorem dX8_init_129 : decode cX8_init 129 = .ok (.putfield 79, 3) := by decide +kernel
theorem dX8_init_132 : decode cX8_init 132 = .ok (.iconst 0, 1) := by decide +kernel
theorem dX8_init_133 : decode cX8_init 133 = .ok (.istore_n 1, 1) := by decide +kernel
theorem dX8_init_134 : decode cX8_init 134 = .ok (.iload_n 1, 1) := by decide +kernel
theorem dX8_init_135 : decode cX8_init 135 = .ok (.iconst 4, 1) := by decide +kernel
theorem dX8_init_136 : decode cX8_init 136 = .ok (.if_icmp .ge 22, 3) := by decide +kernel
theorem dX8_init_139 : decode cX8_init 139 = .ok (.aload_n 0, 1) := by decide +kernel
theorem dX8_init_140 : decode cX8_init 140 = .ok (.getfield 13, 3) := by decide +kernel
theorem dX8_init_143 : decode cX8_init 143 = .ok (.iload_n 1, 1) := by decide +kernel
theorem dX8_init_144 : decode cX8_init 144 = .ok (.new 11, 3) := by decide +kernel
theorem dX8_init_147 : decode cX8_init 147 = .ok (.dup, 1) := by decide +kernel
theorem dX8_init_148 : decode cX8_init 148 = .ok (.invokespecial 82, 3) := by decide +kernel
theorem dX8_init_151 : decode cX8_init 151 = .ok (.aastore, 1) := by decide +kernel
theorem dX8_init_152 : decode cX8_init 152 = .ok (.iinc 1 1, 3) := by decide +kernel
theorem dX8_init_155 : decode cX8_init 155 = .ok (.goto (-21), 3) := by decide +kernel
theorem dX8_init_158 : decode cX8_init 158 = .ok (.return_, 1) := by decide +kernel
set_option maxRecDepth 20000 in
theorem ggX8_row_X8_isSheet : GoodIn wsX8_row wsX8_isSheet := goodIn_r _ [9] (by decide +kernel) (by decide +kernel)
set_option maxRecDepth 20000 in
theorem gX8_row_X8_isSheet : GoodIn wsX8_row (va_wsS RX8 83 yX8_isSheet wsX8_isSheet) := goodIn_app (goodIn_of _ (by decide +kernel)) ggX8_row_X8_isSheet
set_option maxRecDepth 20000 in
theorem ggX8_row_X8_isLane : GoodIn wsX8_row wsX8_isLane := goodIn_r _ [12] (by decide +kernel) (by decide +kernel)
set_option maxRecDepth 20000 in
theorem gX8_row_X8_isLane : GoodIn wsX8_row (va_wsS RX8 87 yX8_isLane wsX8_isLane) := goodIn_app (goodIn_of _ (by decide +kernel)) ggX8_row_X8_isLane
set_option maxRecDepth 20000 in
theorem ggX8_row_X5_faultTakenAs : GoodIn wsX8_row wsX5_faultTakenAs := goodIn_r _ [17, 18, 19, 132, 133, 134, 135] (by decide +kernel) (by decide +kernel)
set_option maxRecDepth 20000 in
theorem gX8_row_X5_faultTakenAs : GoodIn wsX8_row (wsV RX8 90 RX5 yX5_faultTakenAs wsX5_faultTakenAs) := goodIn_app (goodIn_of _ (by decide +kernel)) ggX8_row_X5_faultTakenAs
set_option maxRecDepth 20000 in
theorem ggX8_row_X8_failed : GoodIn wsX8_row wsX8_failed := goodIn_r _ [23, 1, 116, 117, 118, 119, 120, 121, 122, 123, 124, 125, 126, 127, 128] (by decide +kernel) (by decide +kernel)
set_option maxRecDepth 20000 in
theorem gX8_row_X8_failed : GoodIn wsX8_row (wsV RX8 94 RX8 yX8_failed wsX8_failed) := goodIn_app (goodIn_of _ (by decide +kernel)) ggX8_row_X8_failed
set_option maxRecDepth 20000 in
theorem ggX8_row_X5_hasCells : GoodIn wsX8_row wsX5_hasCells := goodIn_r _ [27, 28, 132, 133, 134, 135] (by decide +kernel) (by decide +kernel)
set_option maxRecDepth 20000 in
theorem gX8_row_X5_hasCells : GoodIn wsX8_row (wsV RX8 97 RX5 yX5_hasCells wsX5_hasCells) := goodIn_app (goodIn_of _ (by decide +kernel)) ggX8_row_X5_hasCells
set_option maxRecDepth 20000 in
theorem ggX8_row_X7_firstFault : GoodIn wsX8_row wsX7_firstFault := goodIn_r _ [33, 34, 35, 36, 37, 38, 32, 39, 40, 41, 42, 16, 43, 28, 44, 45, 46, 47, 48, 49, 50, 51, 52, 53, 54, 55, 56, 57, 58, 59, 60, 61, 62, 63, 64, 65, 66, 67, 136, 137, 138, 139, 140, 141, 132, 133, 134, 135] (by decide +kernel) (by decide +kernel)
set_option maxRecDepth 20000 in
theorem gX8_row_X7_firstFault : GoodIn wsX8_row (wsV RX8 101 RX7 yX7_firstFault wsX7_firstFault) := goodIn_app (goodIn_of _ (by decide +kernel)) ggX8_row_X7_firstFault
set_option maxRecDepth 20000 in
theorem ggX8_row_X8_takeText : GoodIn wsX8_row wsX8_takeText := goodIn_r _ [71, 4, 3, 72, 5, 73, 74, 75, 76, 77, 78, 79, 80, 81, 82, 63, 83, 65, 66, 84, 85, 86, 87, 67, 88, 89, 90, 91, 92, 93, 94, 95, 96, 97, 8, 98, 99, 100, 101, 102, 103, 104, 105, 106, 107, 108, 109, 110, 111, 112, 113, 114, 115, 116, 117, 118, 119, 120, 121, 122, 123, 124, 125, 126, 127, 128, 136, 137, 138, 129, 130, 131, 142, 143, 144, 139, 140, 141, 145, 146, 147, 148] (by decide +kernel) (by decide +kernel)
set_option maxRecDepth 20000 in
theorem gX8_row_X8_takeText : GoodIn wsX8_row (wsV RX8 105 RX8 yX8_takeText wsX8_takeText) := goodIn_app (goodIn_of _ (by decide +kernel)) ggX8_row_X8_takeText
theorem dX8_row_0 : decode cX8_row 0 = .ok (.aload_n 0, 1) := by decide +kernel
theorem dX8_row_1 : decode cX8_row 1 = .ok (.iconst 0, 1) := by decide +kernel
theorem dX8_row_2 : decode cX8_row 2 = .ok (.putfield 79, 3) := by decide +kernel
theorem dX8_row_5 : decode cX8_row 5 = .ok (.iload_n 1, 1) := by decide +kernel
theorem dX8_row_6 : decode cX8_row 6 = .ok (.invokestatic 83, 3) := by decide +kernel
theorem dX8_row_9 : decode cX8_row 9 = .ok (.ifCond .ne 5, 3) := by decide +kernel
theorem dX8_row_12 : decode cX8_row 12 = .ok (.iconst (-1), 1) := by decide +kernel
theorem dX8_row_13 : decode cX8_row 13 = .ok (.ireturn, 1) := by decide +kernel
theorem dX8_row_14 : decode cX8_row 14 = .ok (.iload_n 2, 1) := by decide +kernel
theorem dX8_row_15 : decode cX8_row 15 = .ok (.invokestatic 87, 3) := by decide +kernel
theorem dX8_row_18 : decode cX8_row 18 = .ok (.ifCond .ne 6, 3) := by decide +kernel
theorem dX8_row_21 : decode cX8_row 21 = .ok (.bipush (-2), 2) := by decide +kernel
theorem dX8_row_23 : decode cX8_row 23 = .ok (.ireturn, 1) := by decide +kernel
theorem dX8_row_24 : decode cX8_row 24 = .ok (.aload_n 0, 1) := by decide +kernel
theorem dX8_row_25 : decode cX8_row 25 = .ok (.getfield 13, 3) := by decide +kernel
theorem dX8_row_28 : decode cX8_row 28 = .ok (.iload_n 1, 1) := by decide +kernel
theorem dX8_row_29 : decode cX8_row 29 = .ok (.aaload, 1) := by decide +kernel
theorem dX8_row_30 : decode cX8_row 30 = .ok (.astore 5, 2) := by decide +kernel
theorem dX8_row_32 : decode cX8_row 32 = .ok (.aload 5, 2) := by decide +kernel
theorem dX8_row_34 : decode cX8_row 34 = .ok (.iload_n 2, 1) := by decide +kernel
theorem dX8_row_35 : decode cX8_row 35 = .ok (.invokevirtual 90, 3) := by decide +kernel
theorem dX8_row_38 : decode cX8_row 38 = .ok (.istore 6, 2) := by decide +kernel
theorem dX8_row_40 : decode cX8_row 40 = .ok (.iload 6, 2) := by decide +kernel
theorem dX8_row_42 : decode cX8_row 42 = .ok (.ifCond .eq 10, 3) := by decide +kernel
theorem dX8_row_45 : decode cX8_row 45 = .ok (.aload_n 0, 1) := by decide +kernel
theorem dX8_row_46 : decode cX8_row 46 = .ok (.iload 6, 2) := by decide +kernel
theorem dX8_row_48 : decode cX8_row 48 = .ok (.invokevirtual 94, 3) := by decide +kernel
theorem dX8_row_51 : decode cX8_row 51 = .ok (.ireturn, 1) := by decide +kernel
theorem dX8_row_52 : decode cX8_row 52 = .ok (.iload 4, 2) := by decide +kernel
theorem dX8_row_54 : decode cX8_row 54 = .ok (.ifCond .ge 9, 3) := by decide +kernel
theorem dX8_row_57 : decode cX8_row 57 = .ok (.aload_n 0, 1) := by decide +kernel
theorem dX8_row_58 : decode cX8_row 58 = .ok (.iconst 4, 1) := by decide +kernel
theorem dX8_row_59 : decode cX8_row 59 = .ok (.invokevirtual 94, 3) := by decide +kernel
theorem dX8_row_62 : decode cX8_row 62 = .ok (.ireturn, 1) := by decide +kernel
theorem dX8_row_63 : decode cX8_row 63 = .ok (.aload 5, 2) := by decide +kernel
theorem dX8_row_65 : decode cX8_row 65 = .ok (.iload_n 3, 1) := by decide +kernel
theorem dX8_row_66 : decode cX8_row 66 = .ok (.iload 4, 2) := by decide +kernel
theorem dX8_row_68 : decode cX8_row 68 = .ok (.invokevirtual 97, 3) := by decide +kernel
theorem dX8_row_71 : decode cX8_row 71 = .ok (.ifCond .ne 9, 3) := by decide +kernel
theorem dX8_row_74 : decode cX8_row 74 = .ok (.aload_n 0, 1) := by decide +kernel
theorem dX8_row_75 : decode cX8_row 75 = .ok (.iconst 3, 1) := by decide +kernel
theorem dX8_row_76 : decode cX8_row 76 = .ok (.invokevirtual 94, 3) := by decide +kernel
theorem dX8_row_79 : decode cX8_row 79 = .ok (.ireturn, 1) := by decide +kernel
theorem dX8_row_80 : decode cX8_row 80 = .ok (.aload_n 0, 1) := by decide +kernel
theorem dX8_row_81 : decode cX8_row 81 = .ok (.getfield 20, 3) := by decide +kernel
theorem dX8_row_84 : decode cX8_row 84 = .ok (.aload 5, 2) := by decide +kernel
theorem dX8_row_86 : decode cX8_row 86 = .ok (.iload_n 3, 1) := by decide +kernel
theorem dX8_row_87 : decode cX8_row 87 = .ok (.iload 4, 2) := by decide +kernel
theorem dX8_row_89 : decode cX8_row 89 = .ok (.invokevirtual 101, 3) := by decide +kernel
theorem dX8_row_92 : decode cX8_row 92 = .ok (.istore 7, 2) := by decide +kernel
theorem dX8_row_94 : decode cX8_row 94 = .ok (.iload 7, 2) := by decide +kernel
theorem dX8_row_96 : decode cX8_row 96 = .ok (.bipush (-9), 2) := by decide +kernel
theorem dX8_row_98 : decode cX8_row 98 = .ok (.if_icmp .eq 9, 3) := by decide +kernel
theorem dX8_row_101 : decode cX8_row 101 = .ok (.bipush (-100), 2) := by decide +kernel
theorem dX8_row_103 : decode cX8_row 103 = .ok (.iload 7, 2) := by decide +kernel
theorem dX8_row_105 : decode cX8_row 105 = .ok (.isub, 1) := by decide +kernel
theorem dX8_row_106 : decode cX8_row 106 = .ok (.ireturn, 1) := by decide +kernel
theorem dX8_row_107 : decode cX8_row 107 = .ok (.aload_n 0, 1) := by decide +kernel
theorem dX8_row_108 : decode cX8_row 108 = .ok (.invokevirtual 105, 3) := by decide +kernel
theorem dX8_row_111 : decode cX8_row 111 = .ok (.aload_n 0, 1) := by decide +kernel
theorem dX8_row_112 : decode cX8_row 112 = .ok (.getfield 51, 3) := by decide +kernel
theorem dX8_row_115 : decode cX8_row 115 = .ok (.getfield 108, 3) := by decide +kernel
theorem dX8_row_118 : decode cX8_row 118 = .ok (.ireturn, 1) := by decide +kernel
set_option maxRecDepth 20000 in
theorem ggX8_takeText_X1_becomeLike : GoodIn wsX8_takeText wsX1_becomeLike := goodIn_r _ [16, 17, 18, 19, 20, 21, 22, 23, 75, 76, 77] (by decide +kernel) (by decide +kernel)
set_option maxRecDepth 20000 in
theorem gX8_takeText_X1_becomeLike : GoodIn wsX8_takeText (wsV RX8 123 RX1 yX1_becomeLike wsX1_becomeLike) := goodIn_app (goodIn_of _ (by decide +kernel)) ggX8_takeText_X1_becomeLike
set_option maxRecDepth 20000 in
theorem ggX8_takeText_X6_halve : GoodIn wsX8_takeText wsX6_halve := goodIn_r _ [28, 29, 30, 78, 79] (by decide +kernel) (by decide +kernel)
set_option maxRecDepth 20000 in
theorem gX8_takeText_X6_halve : GoodIn wsX8_takeText (wsV RX8 127 RX6 yX6_halve wsX6_halve) := goodIn_app (goodIn_of _ (by decide +kernel)) ggX8_takeText_X6_halve
set_option maxRecDepth 20000 in
theorem ggX8_takeText_X8_beginAgain : GoodIn wsX8_takeText wsX8_beginAgain := goodIn_r _ [35, 36, 37, 1, 38, 39, 40, 41, 42, 43, 44, 45, 46, 20, 21, 22, 47, 48, 49, 50, 51, 52, 53, 54, 55, 56, 57, 58, 59, 60, 61, 62, 63, 64, 65, 80, 81, 69, 70, 71] (by decide +kernel) (by decide +kernel)
set_option maxRecDepth 20000 in
theorem gX8_takeText_X8_beginAgain : GoodIn wsX8_takeText (wsV RX8 132 RX8 yX8_beginAgain wsX8_beginAgain) := goodIn_app (goodIn_of _ (by decide +kernel)) ggX8_takeText_X8_beginAgain
theorem dX8_takeText_0 : decode cX8_takeText 0 = .ok (.aload_n 0, 1) := by decide +kernel
theorem dX8_takeText_1 : decode cX8_takeText 1 = .ok (.getfield 51, 3) := by decide +kernel
theorem dX8_takeText_4 : decode cX8_takeText 4 = .ok (.aload_n 0, 1) := by decide +kernel
theorem dX8_takeText_5 : decode cX8_takeText 5 = .ok (.getfield 20, 3) := by decide +kernel
theorem dX8_takeText_8 : decode cX8_takeText 8 = .ok (.getfield 111, 3) := by decide +kernel
theorem dX8_takeText_11 : decode cX8_takeText 11 = .ok (.putfield 108, 3) := by decide +kernel
theorem dX8_takeText_14 : decode cX8_takeText 14 = .ok (.iconst 0, 1) := by decide +kernel
theorem dX8_takeText_15 : decode cX8_takeText 15 = .ok (.istore_n 1, 1) := by decide +kernel
theorem dX8_takeText_16 : decode cX8_takeText 16 = .ok (.iload_n 1, 1) := by decide +kernel
theorem dX8_takeText_17 : decode cX8_takeText 17 = .ok (.aload_n 0, 1) := by decide +kernel
theorem dX8_takeText_18 : decode cX8_takeText 18 = .ok (.getfield 20, 3) := by decide +kernel
theorem dX8_takeText_21 : decode cX8_takeText 21 = .ok (.getfield 111, 3) := by decide +kernel
theorem dX8_takeText_24 : decode cX8_takeText 24 = .ok (.if_icmp .ge 28, 3) := by decide +kernel
theorem dX8_takeText_27 : decode cX8_takeText 27 = .ok (.aload_n 0, 1) := by decide +kernel
theorem dX8_takeText_28 : decode cX8_takeText 28 = .ok (.getfield 51, 3) := by decide +kernel
theorem dX8_takeText_31 : decode cX8_takeText 31 = .ok (.getfield 114, 3) := by decide +kernel
theorem dX8_takeText_34 : decode cX8_takeText 34 = .ok (.iload_n 1, 1) := by decide +kernel
theorem dX8_takeText_35 : decode cX8_takeText 35 = .ok (.aload_n 0, 1) := by decide +kernel
theorem dX8_takeText_36 : decode cX8_takeText 36 = .ok (.getfield 20, 3) := by decide +kernel
theorem dX8_takeText_39 : decode cX8_takeText 39 = .ok (.getfield 118, 3) := by decide +kernel
theorem dX8_takeText_42 : decode cX8_takeText 42 = .ok (.iload_n 1, 1) := by decide +kernel
theorem dX8_takeText_43 : decode cX8_takeText 43 = .ok (.iaload, 1) := by decide +kernel
theorem dX8_takeText_44 : decode cX8_takeText 44 = .ok (.i2l, 1) := by decide +kernel
theorem dX8_takeText_45 : decode cX8_takeText 45 = .ok (.lastore, 1) := by decide +kernel
theorem dX8_takeText_46 : decode cX8_takeText 46 = .ok (.iinc 1 1, 3) := by decide +kernel
theorem dX8_takeText_49 : decode cX8_takeText 49 = .ok (.goto (-33), 3) := by decide +kernel
theorem dX8_takeText_52 : decode cX8_takeText 52 = .ok (.aload_n 0, 1) := by decide +kernel
theorem dX8_takeText_53 : decode cX8_takeText 53 = .ok (.getfield 27, 3) := by decide +kernel
theorem dX8_takeText_56 : decode cX8_takeText 56 = .ok (.aload_n 0, 1) := by decide +kernel
theorem dX8_takeText_57 : decode cX8_takeText 57 = .ok (.getfield 20, 3) := by decide +kernel
theorem dX8_takeText_60 : decode cX8_takeText 60 = .ok (.getfield 122, 3) := by decide +kernel
theorem dX8_takeText_63 : decode cX8_takeText 63 = .ok (.invokevirtual 123, 3) := by decide +kernel
theorem dX8_takeText_66 : decode cX8_takeText 66 = .ok (.aload_n 0, 1) := by decide +kernel
theorem dX8_takeText_67 : decode cX8_takeText 67 = .ok (.getfield 64, 3) := by decide +kernel
theorem dX8_takeText_70 : decode cX8_takeText 70 = .ok (.aload_n 0, 1) := by decide +kernel
theorem dX8_takeText_71 : decode cX8_takeText 71 = .ok (.getfield 51, 3) := by decide +kernel
theorem dX8_takeText_74 : decode cX8_takeText 74 = .ok (.getfield 108, 3) := by decide +kernel
theorem dX8_takeText_77 : decode cX8_takeText 77 = .ok (.invokevirtual 127, 3) := by decide +kernel
theorem dX8_takeText_80 : decode cX8_takeText 80 = .ok (.aload_n 0, 1) := by decide +kernel
theorem dX8_takeText_81 : decode cX8_takeText 81 = .ok (.getfield 71, 3) := by decide +kernel
theorem dX8_takeText_84 : decode cX8_takeText 84 = .ok (.iconst 0, 1) := by decide +kernel
theorem dX8_takeText_85 : decode cX8_takeText 85 = .ok (.putfield 131, 3) := by decide +kernel
theorem dX8_takeText_88 : decode cX8_takeText 88 = .ok (.aload_n 0, 1) := by decide +kernel
theorem dX8_takeText_89 : decode cX8_takeText 89 = .ok (.invokevirtual 132, 3) := by decide +kernel
theorem dX8_takeText_92 : decode cX8_takeText 92 = .ok (.return_, 1) := by decide +kernel
set_option maxRecDepth 20000 in
theorem ggX8_beginAgain_X3_forgetWhatWas : GoodIn wsX8_beginAgain wsX3_forgetWhatWas := goodIn_r _ [9, 10, 11, 12, 13, 14, 15, 37, 38, 39] (by decide +kernel) (by decide +kernel)
set_option maxRecDepth 20000 in
theorem gX8_beginAgain_X3_forgetWhatWas : GoodIn wsX8_beginAgain (wsV RX8 136 RX3 yX3_forgetWhatWas wsX3_forgetWhatWas) := goodIn_app (goodIn_of _ (by decide +kernel)) ggX8_beginAgain_X3_forgetWhatWas
set_option maxRecDepth 20000 in
theorem ggX8_beginAgain_X3_becomeLike : GoodIn wsX8_beginAgain wsX3_becomeLike := goodIn_r _ [19, 20, 10, 12, 13, 14, 15, 21, 6, 7, 8, 9, 11, 37, 38, 39] (by decide +kernel) (by decide +kernel)
set_option maxRecDepth 20000 in
theorem gX8_beginAgain_X3_becomeLike : GoodIn wsX8_beginAgain (wsV RX8 139 RX3 yX3_becomeLike wsX3_becomeLike) := goodIn_app (goodIn_of _ (by decide +kernel)) ggX8_beginAgain_X3_becomeLike
theorem dX8_beginAgain_0 : decode cX8_beginAgain 0 = .ok (.aload_n 0, 1) := by decide +kernel
theorem dX8_beginAgain_1 : decode cX8_beginAgain 1 = .ok (.getfield 37, 3) := by decide +kernel
theorem dX8_beginAgain_4 : decode cX8_beginAgain 4 = .ok (.iconst 0, 1) := by decide +kernel
theorem dX8_beginAgain_5 : decode cX8_beginAgain 5 = .ok (.putfield 135, 3) := by decide +kernel
theorem dX8_beginAgain_8 : decode cX8_beginAgain 8 = .ok (.aload_n 0, 1) := by decide +kernel
theorem dX8_beginAgain_9 : decode cX8_beginAgain 9 = .ok (.getfield 51, 3) := by decide +kernel
theorem dX8_beginAgain_12 : decode cX8_beginAgain 12 = .ok (.invokevirtual 136, 3) := by decide +kernel
theorem dX8_beginAgain_15 : decode cX8_beginAgain 15 = .ok (.aload_n 0, 1) := by decide +kernel
theorem dX8_beginAgain_16 : decode cX8_beginAgain 16 = .ok (.getfield 55, 3) := by decide +kernel
theorem dX8_beginAgain_19 : decode cX8_beginAgain 19 = .ok (.aload_n 0, 1) := by decide +kernel
theorem dX8_beginAgain_20 : decode cX8_beginAgain 20 = .ok (.getfield 51, 3) := by decide +kernel
theorem dX8_beginAgain_23 : decode cX8_beginAgain 23 = .ok (.invokevirtual 139, 3) := by decide +kernel
theorem dX8_beginAgain_26 : decode cX8_beginAgain 26 = .ok (.return_, 1) := by decide +kernel
set_option maxRecDepth 20000 in
theorem ggX8_ofHelper_X1_has : GoodIn wsX8_ofHelper wsX1_has := goodIn_r _ [9, 10, 45, 46, 47] (by decide +kernel) (by decide +kernel)
set_option maxRecDepth 20000 in
theorem gX8_ofHelper_X1_has : GoodIn wsX8_ofHelper (wsV RX8 142 RX1 yX1_has wsX1_has) := goodIn_app (goodIn_of _ (by decide +kernel)) ggX8_ofHelper_X1_has
set_option maxRecDepth 20000 in
theorem ggX8_ofHelper_X1_strength : GoodIn wsX8_ofHelper wsX1_strength := goodIn_r _ [14, 15, 16, 17, 6, 7, 8, 9, 10, 45, 46, 47] (by decide +kernel) (by decide +kernel)
set_option maxRecDepth 20000 in
theorem gX8_ofHelper_X1_strength : GoodIn wsX8_ofHelper (wsV RX8 152 RX1 yX1_strength wsX1_strength) := goodIn_app (goodIn_of _ (by decide +kernel)) ggX8_ofHelper_X1_strength
set_option maxRecDepth 20000 in
theorem ggX8_ofHelper_X2_actsOf : GoodIn wsX8_ofHelper wsX2_actsOf := goodIn_r _ [22, 23, 24, 25, 26, 27, 28, 29, 30, 31, 48, 49, 50, 51, 52, 53] (by decide +kernel) (by decide +kernel)
set_option maxRecDepth 20000 in
theorem gX8_ofHelper_X2_actsOf : GoodIn wsX8_ofHelper (wsV RX8 156 RX2 yX2_actsOf wsX2_actsOf) := goodIn_app (goodIn_of _ (by decide +kernel)) ggX8_ofHelper_X2_actsOf
theorem dX8_ofHelper_0 : decode cX8_ofHelper 0 = .ok (.aload_n 0, 1) := by decide +kernel
theorem dX8_ofHelper_1 : decode cX8_ofHelper 1 = .ok (.getfield 27, 3) := by decide +kernel
theorem dX8_ofHelper_4 : decode cX8_ofHelper 4 = .ok (.iload_n 1, 1) := by decide +kernel
theorem dX8_ofHelper_5 : decode cX8_ofHelper 5 = .ok (.i2l, 1) := by decide +kernel
theorem dX8_ofHelper_6 : decode cX8_ofHelper 6 = .ok (.invokevirtual 142, 3) := by decide +kernel
theorem dX8_ofHelper_9 : decode cX8_ofHelper 9 = .ok (.ifCond .ne 5, 3) := by decide +kernel
theorem dX8_ofHelper_12 : decode cX8_ofHelper 12 = .ok (.iconst (-1), 1) := by decide +kernel
theorem dX8_ofHelper_13 : decode cX8_ofHelper 13 = .ok (.ireturn, 1) := by decide +kernel
theorem dX8_ofHelper_14 : decode cX8_ofHelper 14 = .ok (.iload_n 2, 1) := by decide +kernel
theorem dX8_ofHelper_15 : decode cX8_ofHelper 15 = .ok (.tableswitch 68 0 3 #[29, 39, 49, 59], 29) := by decide +kernel
theorem dX8_ofHelper_44 : decode cX8_ofHelper 44 = .ok (.aload_n 0, 1) := by decide +kernel
theorem dX8_ofHelper_45 : decode cX8_ofHelper 45 = .ok (.getfield 27, 3) := by decide +kernel
theorem dX8_ofHelper_48 : decode cX8_ofHelper 48 = .ok (.getfield 146, 3) := by decide +kernel
theorem dX8_ofHelper_51 : decode cX8_ofHelper 51 = .ok (.iload_n 1, 1) := by decide +kernel
theorem dX8_ofHelper_52 : decode cX8_ofHelper 52 = .ok (.iaload, 1) := by decide +kernel
theorem dX8_ofHelper_53 : decode cX8_ofHelper 53 = .ok (.ireturn, 1) := by decide +kernel
theorem dX8_ofHelper_54 : decode cX8_ofHelper 54 = .ok (.aload_n 0, 1) := by decide +kernel
theorem dX8_ofHelper_55 : decode cX8_ofHelper 55 = .ok (.getfield 27, 3) := by decide +kernel
theorem dX8_ofHelper_58 : decode cX8_ofHelper 58 = .ok (.getfield 149, 3) := by decide +kernel
theorem dX8_ofHelper_61 : decode cX8_ofHelper 61 = .ok (.iload_n 1, 1) := by decide +kernel
theorem dX8_ofHelper_62 : decode cX8_ofHelper 62 = .ok (.iaload, 1) := by decide +kernel
theorem dX8_ofHelper_63 : decode cX8_ofHelper 63 = .ok (.ireturn, 1) := by decide +kernel
theorem dX8_ofHelper_64 : decode cX8_ofHelper 64 = .ok (.aload_n 0, 1) := by decide +kernel
theorem dX8_ofHelper_65 : decode cX8_ofHelper 65 = .ok (.getfield 27, 3) := by decide +kernel
theorem dX8_ofHelper_68 : decode cX8_ofHelper 68 = .ok (.iload_n 1, 1) := by decide +kernel
theorem dX8_ofHelper_69 : decode cX8_ofHelper 69 = .ok (.i2l, 1) := by decide +kernel
theorem dX8_ofHelper_70 : decode cX8_ofHelper 70 = .ok (.invokevirtual 152, 3) := by decide +kernel
theorem dX8_ofHelper_73 : decode cX8_ofHelper 73 = .ok (.ireturn, 1) := by decide +kernel
theorem dX8_ofHelper_74 : decode cX8_ofHelper 74 = .ok (.aload_n 0, 1) := by decide +kernel
theorem dX8_ofHelper_75 : decode cX8_ofHelper 75 = .ok (.getfield 37, 3) := by decide +kernel
theorem dX8_ofHelper_78 : decode cX8_ofHelper 78 = .ok (.iload_n 1, 1) := by decide +kernel
theorem dX8_ofHelper_79 : decode cX8_ofHelper 79 = .ok (.invokevirtual 156, 3) := by decide +kernel
theorem dX8_ofHelper_82 : decode cX8_ofHelper 82 = .ok (.ireturn, 1) := by decide +kernel
theorem dX8_ofHelper_83 : decode cX8_ofHelper 83 = .ok (.bipush (-2), 2) := by decide +kernel
theorem dX8_ofHelper_85 : decode cX8_ofHelper 85 = .ok (.ireturn, 1) := by decide +kernel
set_option maxRecDepth 20000 in
theorem ggX8_at_X3_has : GoodIn wsX8_at wsX3_has := goodIn_r _ [9, 10, 24, 25, 26] (by decide +kernel) (by decide +kernel)
set_option maxRecDepth 20000 in
theorem gX8_at_X3_has : GoodIn wsX8_at (wsV RX8 159 RX3 yX3_has wsX3_has) := goodIn_app (goodIn_of _ (by decide +kernel)) ggX8_at_X3_has
theorem dX8_at_0 : decode cX8_at 0 = .ok (.aload_n 0, 1) := by decide +kernel
theorem dX8_at_1 : decode cX8_at 1 = .ok (.getfield 51, 3) := by decide +kernel
theorem dX8_at_4 : decode cX8_at 4 = .ok (.iload_n 1, 1) := by decide +kernel
theorem dX8_at_5 : decode cX8_at 5 = .ok (.invokevirtual 159, 3) := by decide +kernel
theorem dX8_at_8 : decode cX8_at 8 = .ok (.ifCond .ne 7, 3) := by decide +kernel
theorem dX8_at_11 : decode cX8_at 11 = .ok (.ldc2_w 161, 3) := by decide +kernel
theorem dX8_at_14 : decode cX8_at 14 = .ok (.lreturn, 1) := by decide +kernel
theorem dX8_at_15 : decode cX8_at 15 = .ok (.iload_n 2, 1) := by decide +kernel
theorem dX8_at_16 : decode cX8_at 16 = .ok (.lookupswitch 48 #[(0, 28), (1, 38)], 28) := by decide +kernel
theorem dX8_at_44 : decode cX8_at 44 = .ok (.aload_n 0, 1) := by decide +kernel
theorem dX8_at_45 : decode cX8_at 45 = .ok (.getfield 51, 3) := by decide +kernel
theorem dX8_at_48 : decode cX8_at 48 = .ok (.getfield 114, 3) := by decide +kernel
theorem dX8_at_51 : decode cX8_at 51 = .ok (.iload_n 1, 1) := by decide +kernel
theorem dX8_at_52 : decode cX8_at 52 = .ok (.laload, 1) := by decide +kernel
theorem dX8_at_53 : decode cX8_at 53 = .ok (.lreturn, 1) := by decide +kernel
theorem dX8_at_54 : decode cX8_at 54 = .ok (.aload_n 0, 1) := by decide +kernel
theorem dX8_at_55 : decode cX8_at 55 = .ok (.getfield 51, 3) := by decide +kernel
theorem dX8_at_58 : decode cX8_at 58 = .ok (.getfield 163, 3) := by decide +kernel
theorem dX8_at_61 : decode cX8_at 61 = .ok (.iload_n 1, 1) := by decide +kernel
theorem dX8_at_62 : decode cX8_at 62 = .ok (.laload, 1) := by decide +kernel
theorem dX8_at_63 : decode cX8_at 63 = .ok (.lreturn, 1) := by decide +kernel
theorem dX8_at_64 : decode cX8_at 64 = .ok (.ldc2_w 161, 3) := by decide +kernel
theorem dX8_at_67 : decode cX8_at 67 = .ok (.lreturn, 1) := by decide +kernel
set_option maxRecDepth 20000 in
theorem ggX8_add_X8_refusedAim : GoodIn wsX8_add wsX8_refusedAim := goodIn_r _ [7, 8, 9, 10, 11, 12, 6, 13, 14, 15, 16, 17, 18, 19, 20, 78, 79, 80, 81, 82, 83, 84, 85, 86, 87, 88, 89, 90, 93, 94, 95] (by decide +kernel) (by decide +kernel)
set_option maxRecDepth 20000 in
theorem gX8_add_X8_refusedAim : GoodIn wsX8_add (wsV RX8 166 RX8 yX8_refusedAim wsX8_refusedAim) := goodIn_app (goodIn_of _ (by decide +kernel)) ggX8_add_X8_refusedAim
set_option maxRecDepth 20000 in
theorem ggX8_add_X8_act : GoodIn wsX8_add wsX8_act := goodIn_r _ [24, 1, 14, 25, 26, 27, 28, 29, 30, 31, 32, 33, 34, 35, 36, 37, 38, 39, 40, 41, 42, 43, 44, 18, 45, 46, 47, 48, 49, 50, 51, 52, 53, 54, 55, 16, 17, 19, 20, 56, 57, 58, 59, 60, 61, 62, 63, 64, 65, 66, 67, 68, 69, 70, 71, 72, 73, 74, 75, 76, 77, 78, 79, 80, 81, 82, 83, 84, 85, 86, 87, 88, 89, 90, 91, 92, 96, 97, 98, 99, 93, 94, 95, 100, 101, 102] (by decide +kernel) (by decide +kernel)
set_option maxRecDepth 20000 in
theorem gX8_add_X8_act : GoodIn wsX8_add (wsV RX8 170 RX8 yX8_act wsX8_act) := goodIn_app (goodIn_of _ (by decide +kernel)) ggX8_add_X8_act
theorem dX8_add_0 : decode cX8_add 0 = .ok (.aload_n 0, 1) := by decide +kernel
theorem dX8_add_1 : decode cX8_add 1 = .ok (.iload_n 1, 1) := by decide +kernel
theorem dX8_add_2 : decode cX8_add 2 = .ok (.iload_n 2, 1) := by decide +kernel
theorem dX8_add_3 : decode cX8_add 3 = .ok (.lload_n 3, 1) := by decide +kernel
theorem dX8_add_4 : decode cX8_add 4 = .ok (.invokevirtual 166, 3) := by decide +kernel
theorem dX8_add_7 : decode cX8_add 7 = .ok (.istore 5, 2) := by decide +kernel
theorem dX8_add_9 : decode cX8_add 9 = .ok (.iload 5, 2) := by decide +kernel
theorem dX8_add_11 : decode cX8_add 11 = .ok (.ifCond .eq 8, 3) := by decide +kernel
theorem dX8_add_14 : decode cX8_add 14 = .ok (.iload 5, 2) := by decide +kernel
theorem dX8_add_16 : decode cX8_add 16 = .ok (.goto 11, 3) := by decide +kernel
theorem dX8_add_19 : decode cX8_add 19 = .ok (.aload_n 0, 1) := by decide +kernel
theorem dX8_add_20 : decode cX8_add 20 = .ok (.iconst 0, 1) := by decide +kernel
theorem dX8_add_21 : decode cX8_add 21 = .ok (.iload_n 1, 1) := by decide +kernel
theorem dX8_add_22 : decode cX8_add 22 = .ok (.iload_n 2, 1) := by decide +kernel
theorem dX8_add_23 : decode cX8_add 23 = .ok (.lload_n 3, 1) := by decide +kernel
theorem dX8_add_24 : decode cX8_add 24 = .ok (.invokevirtual 170, 3) := by decide +kernel
theorem dX8_add_27 : decode cX8_add 27 = .ok (.istore 6, 2) := by decide +kernel
theorem dX8_add_29 : decode cX8_add 29 = .ok (.iload 6, 2) := by decide +kernel
theorem dX8_add_31 : decode cX8_add 31 = .ok (.ifCond .ge 8, 3) := by decide +kernel
theorem dX8_add_34 : decode cX8_add 34 = .ok (.iload 6, 2) := by decide +kernel
theorem dX8_add_36 : decode cX8_add 36 = .ok (.goto 10, 3) := by decide +kernel
theorem dX8_add_39 : decode cX8_add 39 = .ok (.aload_n 0, 1) := by decide +kernel
theorem dX8_add_40 : decode cX8_add 40 = .ok (.getfield 37, 3) := by decide +kernel
theorem dX8_add_43 : decode cX8_add 43 = .ok (.getfield 135, 3) := by decide +kernel
theorem dX8_add_46 : decode cX8_add 46 = .ok (.ireturn, 1) := by decide +kernel
set_option maxRecDepth 20000 in
theorem ggX8_cap_X8_refusedAim : GoodIn wsX8_cap wsX8_refusedAim := goodIn_r _ [5, 6, 7, 8, 9, 10, 4, 11, 12, 13, 14, 15, 16, 17, 18, 77, 78, 79, 80, 81, 82, 83, 84, 85, 86, 87, 88, 89, 90, 91, 92] (by decide +kernel) (by decide +kernel)
set_option maxRecDepth 20000 in
theorem gX8_cap_X8_refusedAim : GoodIn wsX8_cap (wsV RX8 166 RX8 yX8_refusedAim wsX8_refusedAim) := goodIn_app (goodIn_of _ (by decide +kernel)) ggX8_cap_X8_refusedAim
set_option maxRecDepth 20000 in
theorem ggX8_cap_X8_act : GoodIn wsX8_cap wsX8_act := goodIn_r _ [22, 23, 12, 24, 25, 26, 27, 28, 29, 30, 31, 32, 33, 34, 35, 36, 37, 38, 39, 40, 41, 42, 43, 16, 44, 45, 46, 47, 48, 49, 50, 51, 52, 53, 54, 14, 15, 17, 18, 55, 56, 57, 58, 59, 60, 61, 62, 63, 64, 65, 66, 67, 68, 69, 70, 71, 72, 73, 74, 75, 76, 77, 78, 79, 80, 81, 82, 83, 84, 85, 86, 87, 88, 89, 93, 94, 95, 96, 97, 98, 90, 91, 92, 99, 100, 101] (by decide +kernel) (by decide +kernel)
set_option maxRecDepth 20000 in
theorem gX8_cap_X8_act : GoodIn wsX8_cap (wsV RX8 170 RX8 yX8_act wsX8_act) := goodIn_app (goodIn_of _ (by decide +kernel)) ggX8_cap_X8_act
theorem dX8_cap_0 : decode cX8_cap 0 = .ok (.aload_n 0, 1) := by decide +kernel
theorem dX8_cap_1 : decode cX8_cap 1 = .ok (.iload_n 1, 1) := by decide +kernel
theorem dX8_cap_2 : decode cX8_cap 2 = .ok (.iload_n 2, 1) := by decide +kernel
theorem dX8_cap_3 : decode cX8_cap 3 = .ok (.lload_n 3, 1) := by decide +kernel
theorem dX8_cap_4 : decode cX8_cap 4 = .ok (.invokevirtual 166, 3) := by decide +kernel
theorem dX8_cap_7 : decode cX8_cap 7 = .ok (.istore 5, 2) := by decide +kernel
theorem dX8_cap_9 : decode cX8_cap 9 = .ok (.iload 5, 2) := by decide +kernel
theorem dX8_cap_11 : decode cX8_cap 11 = .ok (.ifCond .eq 8, 3) := by decide +kernel
theorem dX8_cap_14 : decode cX8_cap 14 = .ok (.iload 5, 2) := by decide +kernel
theorem dX8_cap_16 : decode cX8_cap 16 = .ok (.goto 11, 3) := by decide +kernel
theorem dX8_cap_19 : decode cX8_cap 19 = .ok (.aload_n 0, 1) := by decide +kernel
theorem dX8_cap_20 : decode cX8_cap 20 = .ok (.iconst 1, 1) := by decide +kernel
theorem dX8_cap_21 : decode cX8_cap 21 = .ok (.iload_n 1, 1) := by decide +kernel
theorem dX8_cap_22 : decode cX8_cap 22 = .ok (.iload_n 2, 1) := by decide +kernel
theorem dX8_cap_23 : decode cX8_cap 23 = .ok (.lload_n 3, 1) := by decide +kernel
theorem dX8_cap_24 : decode cX8_cap 24 = .ok (.invokevirtual 170, 3) := by decide +kernel
theorem dX8_cap_27 : decode cX8_cap 27 = .ok (.ireturn, 1) := by decide +kernel
set_option maxRecDepth 20000 in
theorem ggX8_floor_X8_refusedAim : GoodIn wsX8_floor wsX8_refusedAim := goodIn_r _ [5, 6, 7, 8, 9, 10, 4, 11, 12, 13, 14, 15, 16, 17, 18, 77, 78, 79, 80, 81, 82, 83, 84, 85, 86, 87, 88, 89, 90, 91, 92] (by decide +kernel) (by decide +kernel)
set_option maxRecDepth 20000 in
theorem gX8_floor_X8_refusedAim : GoodIn wsX8_floor (wsV RX8 166 RX8 yX8_refusedAim wsX8_refusedAim) := goodIn_app (goodIn_of _ (by decide +kernel)) ggX8_floor_X8_refusedAim
set_option maxRecDepth 20000 in
theorem ggX8_floor_X8_act : GoodIn wsX8_floor wsX8_act := goodIn_r _ [22, 23, 12, 24, 25, 26, 27, 28, 29, 30, 31, 32, 33, 34, 35, 36, 37, 38, 39, 40, 41, 42, 43, 16, 44, 45, 46, 47, 48, 49, 50, 51, 52, 53, 54, 14, 15, 17, 18, 55, 56, 57, 58, 59, 60, 61, 62, 63, 64, 65, 66, 67, 68, 69, 70, 71, 72, 73, 74, 75, 76, 77, 78, 79, 80, 81, 82, 83, 84, 85, 86, 87, 88, 89, 93, 94, 95, 96, 97, 98, 90, 91, 92, 99, 100, 101] (by decide +kernel) (by decide +kernel)
set_option maxRecDepth 20000 in
theorem gX8_floor_X8_act : GoodIn wsX8_floor (wsV RX8 170 RX8 yX8_act wsX8_act) := goodIn_app (goodIn_of _ (by decide +kernel)) ggX8_floor_X8_act
theorem dX8_floor_0 : decode cX8_floor 0 = .ok (.aload_n 0, 1) := by decide +kernel
theorem dX8_floor_1 : decode cX8_floor 1 = .ok (.iload_n 1, 1) := by decide +kernel
theorem dX8_floor_2 : decode cX8_floor 2 = .ok (.iload_n 2, 1) := by decide +kernel
theorem dX8_floor_3 : decode cX8_floor 3 = .ok (.lload_n 3, 1) := by decide +kernel
theorem dX8_floor_4 : decode cX8_floor 4 = .ok (.invokevirtual 166, 3) := by decide +kernel
theorem dX8_floor_7 : decode cX8_floor 7 = .ok (.istore 5, 2) := by decide +kernel
theorem dX8_floor_9 : decode cX8_floor 9 = .ok (.iload 5, 2) := by decide +kernel
theorem dX8_floor_11 : decode cX8_floor 11 = .ok (.ifCond .eq 8, 3) := by decide +kernel
theorem dX8_floor_14 : decode cX8_floor 14 = .ok (.iload 5, 2) := by decide +kernel
theorem dX8_floor_16 : decode cX8_floor 16 = .ok (.goto 11, 3) := by decide +kernel
theorem dX8_floor_19 : decode cX8_floor 19 = .ok (.aload_n 0, 1) := by decide +kernel
theorem dX8_floor_20 : decode cX8_floor 20 = .ok (.iconst 2, 1) := by decide +kernel
theorem dX8_floor_21 : decode cX8_floor 21 = .ok (.iload_n 1, 1) := by decide +kernel
theorem dX8_floor_22 : decode cX8_floor 22 = .ok (.iload_n 2, 1) := by decide +kernel
theorem dX8_floor_23 : decode cX8_floor 23 = .ok (.lload_n 3, 1) := by decide +kernel
theorem dX8_floor_24 : decode cX8_floor 24 = .ok (.invokevirtual 170, 3) := by decide +kernel
theorem dX8_floor_27 : decode cX8_floor 27 = .ok (.ireturn, 1) := by decide +kernel
set_option maxRecDepth 20000 in
theorem ggX8_help_X1_has : GoodIn wsX8_help wsX1_has := goodIn_r _ [6, 7, 86, 87, 88] (by decide +kernel) (by decide +kernel)
set_option maxRecDepth 20000 in
theorem gX8_help_X1_has : GoodIn wsX8_help (wsV RX8 142 RX1 yX1_has wsX1_has) := goodIn_app (goodIn_of _ (by decide +kernel)) ggX8_help_X1_has
set_option maxRecDepth 20000 in
theorem ggX8_help_X8_refusedRun : GoodIn wsX8_help wsX8_refusedRun := goodIn_r _ [12, 13, 14, 15, 16, 17, 18, 19, 73, 74, 75, 76, 77, 78, 79, 80, 81, 82, 83, 84, 85, 89, 90, 91] (by decide +kernel) (by decide +kernel)
set_option maxRecDepth 20000 in
theorem gX8_help_X8_refusedRun : GoodIn wsX8_help (wsV RX8 174 RX8 yX8_refusedRun wsX8_refusedRun) := goodIn_app (goodIn_of _ (by decide +kernel)) ggX8_help_X8_refusedRun
set_option maxRecDepth 20000 in
theorem ggX8_help_X8_act : GoodIn wsX8_help wsX8_act := goodIn_r _ [23, 24, 13, 1, 25, 26, 27, 28, 29, 30, 31, 32, 33, 34, 35, 36, 37, 38, 39, 40, 41, 42, 43, 17, 44, 45, 46, 47, 48, 49, 50, 51, 52, 53, 54, 15, 16, 18, 19, 55, 56, 57, 58, 59, 60, 61, 5, 62, 63, 64, 65, 3, 4, 6, 7, 66, 67, 68, 69, 70, 71, 73, 74, 75, 76, 77, 78, 79, 80, 81, 82, 83, 84, 85, 92, 93, 94, 95, 96, 97, 89, 90, 91, 86, 87, 88] (by decide +kernel) (by decide +kernel)
set_option maxRecDepth 20000 in
theorem gX8_help_X8_act : GoodIn wsX8_help (wsV RX8 170 RX8 yX8_act wsX8_act) := goodIn_app (goodIn_of _ (by decide +kernel)) ggX8_help_X8_act
set_option maxRecDepth 20000 in
theorem ggX8_help_X1_strength : GoodIn wsX8_help wsX1_strength := goodIn_r _ [62, 63, 64, 65, 3, 4, 5, 6, 7, 86, 87, 88] (by decide +kernel) (by decide +kernel)
set_option maxRecDepth 20000 in
theorem gX8_help_X1_strength : GoodIn wsX8_help (wsV RX8 152 RX1 yX1_strength wsX1_strength) := goodIn_app (goodIn_of _ (by decide +kernel)) ggX8_help_X1_strength
theorem dX8_help_0 : decode cX8_help 0 = .ok (.aload_n 0, 1) := by decide +kernel
theorem dX8_help_1 : decode cX8_help 1 = .ok (.getfield 27, 3) := by decide +kernel
theorem dX8_help_4 : decode cX8_help 4 = .ok (.iload_n 1, 1) := by decide +kernel
theorem dX8_help_5 : decode cX8_help 5 = .ok (.i2l, 1) := by decide +kernel
theorem dX8_help_6 : decode cX8_help 6 = .ok (.invokevirtual 142, 3) := by decide +kernel
theorem dX8_help_9 : decode cX8_help 9 = .ok (.ifCond .ne 5, 3) := by decide +kernel
theorem dX8_help_12 : decode cX8_help 12 = .ok (.iconst (-1), 1) := by decide +kernel
theorem dX8_help_13 : decode cX8_help 13 = .ok (.ireturn, 1) := by decide +kernel
theorem dX8_help_14 : decode cX8_help 14 = .ok (.aload_n 0, 1) := by decide +kernel
theorem dX8_help_15 : decode cX8_help 15 = .ok (.iload_n 2, 1) := by decide +kernel
theorem dX8_help_16 : decode cX8_help 16 = .ok (.iload_n 3, 1) := by decide +kernel
theorem dX8_help_17 : decode cX8_help 17 = .ok (.invokevirtual 174, 3) := by decide +kernel
theorem dX8_help_20 : decode cX8_help 20 = .ok (.istore 5, 2) := by decide +kernel
theorem dX8_help_22 : decode cX8_help 22 = .ok (.iload 5, 2) := by decide +kernel
theorem dX8_help_24 : decode cX8_help 24 = .ok (.ifCond .eq 6, 3) := by decide +kernel
theorem dX8_help_27 : decode cX8_help 27 = .ok (.iload 5, 2) := by decide +kernel
theorem dX8_help_29 : decode cX8_help 29 = .ok (.ireturn, 1) := by decide +kernel
theorem dX8_help_30 : decode cX8_help 30 = .ok (.iload 4, 2) := by decide +kernel
theorem dX8_help_32 : decode cX8_help 32 = .ok (.ifCond .eq 12, 3) := by decide +kernel
theorem dX8_help_35 : decode cX8_help 35 = .ok (.iload 4, 2) := by decide +kernel
theorem dX8_help_37 : decode cX8_help 37 = .ok (.iconst 1, 1) := by decide +kernel
theorem dX8_help_38 : decode cX8_help 38 = .ok (.if_icmp .eq 6, 3) := by decide +kernel
theorem dX8_help_41 : decode cX8_help 41 = .ok (.bipush (-2), 2) := by decide +kernel
theorem dX8_help_43 : decode cX8_help 43 = .ok (.ireturn, 1) := by decide +kernel
theorem dX8_help_44 : decode cX8_help 44 = .ok (.aload_n 0, 1) := by decide +kernel
theorem dX8_help_45 : decode cX8_help 45 = .ok (.iload 4, 2) := by decide +kernel
theorem dX8_help_47 : decode cX8_help 47 = .ok (.iconst 1, 1) := by decide +kernel
theorem dX8_help_48 : decode cX8_help 48 = .ok (.if_icmp .ne 7, 3) := by decide +kernel
theorem dX8_help_51 : decode cX8_help 51 = .ok (.iconst 3, 1) := by decide +kernel
theorem dX8_help_52 : decode cX8_help 52 = .ok (.goto 4, 3) := by decide +kernel
theorem dX8_help_55 : decode cX8_help 55 = .ok (.iconst 4, 1) := by decide +kernel
theorem dX8_help_56 : decode cX8_help 56 = .ok (.iload_n 2, 1) := by decide +kernel
theorem dX8_help_57 : decode cX8_help 57 = .ok (.iload_n 3, 1) := by decide +kernel
theorem dX8_help_58 : decode cX8_help 58 = .ok (.iload_n 1, 1) := by decide +kernel
theorem dX8_help_59 : decode cX8_help 59 = .ok (.i2l, 1) := by decide +kernel
theorem dX8_help_60 : decode cX8_help 60 = .ok (.invokevirtual 170, 3) := by decide +kernel
theorem dX8_help_63 : decode cX8_help 63 = .ok (.istore 6, 2) := by decide +kernel
theorem dX8_help_65 : decode cX8_help 65 = .ok (.iload 6, 2) := by decide +kernel
theorem dX8_help_67 : decode cX8_help 67 = .ok (.ifCond .ge 8, 3) := by decide +kernel
theorem dX8_help_70 : decode cX8_help 70 = .ok (.iload 6, 2) := by decide +kernel
theorem dX8_help_72 : decode cX8_help 72 = .ok (.goto 12, 3) := by decide +kernel
theorem dX8_help_75 : decode cX8_help 75 = .ok (.aload_n 0, 1) := by decide +kernel
theorem dX8_help_76 : decode cX8_help 76 = .ok (.getfield 27, 3) := by decide +kernel
theorem dX8_help_79 : decode cX8_help 79 = .ok (.iload_n 1, 1) := by decide +kernel
theorem dX8_help_80 : decode cX8_help 80 = .ok (.i2l, 1) := by decide +kernel
theorem dX8_help_81 : decode cX8_help 81 = .ok (.invokevirtual 152, 3) := by decide +kernel
theorem dX8_help_84 : decode cX8_help 84 = .ok (.ireturn, 1) := by decide +kernel
set_option maxRecDepth 20000 in
theorem ggX8_fresh_X3_areThere : GoodIn wsX8_fresh wsX3_areThere := goodIn_r _ [8, 9, 46, 47, 48] (by decide +kernel) (by decide +kernel)
set_option maxRecDepth 20000 in
theorem gX8_fresh_X3_areThere : GoodIn wsX8_fresh (wsV RX8 178 RX3 yX3_areThere wsX3_areThere) := goodIn_app (goodIn_of _ (by decide +kernel)) ggX8_fresh_X3_areThere
set_option maxRecDepth 20000 in
theorem ggX8_fresh_X8_beginAgain : GoodIn wsX8_fresh wsX8_beginAgain := goodIn_r _ [14, 2, 3, 1, 15, 16, 17, 18, 7, 19, 20, 21, 22, 23, 24, 25, 26, 27, 28, 29, 9, 30, 31, 32, 33, 34, 35, 36, 37, 38, 39, 40, 41, 42, 43, 44, 45, 46, 47, 48] (by decide +kernel) (by decide +kernel)
set_option maxRecDepth 20000 in
theorem gX8_fresh_X8_beginAgain : GoodIn wsX8_fresh (wsV RX8 132 RX8 yX8_beginAgain wsX8_beginAgain) := goodIn_app (goodIn_of _ (by decide +kernel)) ggX8_fresh_X8_beginAgain
theorem dX8_fresh_0 : decode cX8_fresh 0 = .ok (.aload_n 0, 1) := by decide +kernel
theorem dX8_fresh_1 : decode cX8_fresh 1 = .ok (.getfield 51, 3) := by decide +kernel
theorem dX8_fresh_4 : decode cX8_fresh 4 = .ok (.invokevirtual 178, 3) := by decide +kernel
theorem dX8_fresh_7 : decode cX8_fresh 7 = .ok (.ifCond .ne 6, 3) := by decide +kernel
theorem dX8_fresh_10 : decode cX8_fresh 10 = .ok (.bipush (-3), 2) := by decide +kernel
theorem dX8_fresh_12 : decode cX8_fresh 12 = .ok (.ireturn, 1) := by decide +kernel
theorem dX8_fresh_13 : decode cX8_fresh 13 = .ok (.aload_n 0, 1) := by decide +kernel
theorem dX8_fresh_14 : decode cX8_fresh 14 = .ok (.getfield 37, 3) := by decide +kernel
theorem dX8_fresh_17 : decode cX8_fresh 17 = .ok (.getfield 135, 3) := by decide +kernel
theorem dX8_fresh_20 : decode cX8_fresh 20 = .ok (.istore_n 1, 1) := by decide +kernel
theorem dX8_fresh_21 : decode cX8_fresh 21 = .ok (.aload_n 0, 1) := by decide +kernel
theorem dX8_fresh_22 : decode cX8_fresh 22 = .ok (.invokevirtual 132, 3) := by decide +kernel
theorem dX8_fresh_25 : decode cX8_fresh 25 = .ok (.iload_n 1, 1) := by decide +kernel
theorem dX8_fresh_26 : decode cX8_fresh 26 = .ok (.ireturn, 1) := by decide +kernel
set_option maxRecDepth 20000 in
theorem ggX8_day_X8_isSheet : GoodIn wsX8_day wsX8_isSheet := goodIn_r _ [8] (by decide +kernel) (by decide +kernel)
set_option maxRecDepth 20000 in
theorem gX8_day_X8_isSheet : GoodIn wsX8_day (va_wsS RX8 83 yX8_isSheet wsX8_isSheet) := goodIn_app (goodIn_of _ (by decide +kernel)) ggX8_day_X8_isSheet
set_option maxRecDepth 20000 in
theorem ggX8_day_X8_isLane : GoodIn wsX8_day wsX8_isLane := goodIn_r _ [11] (by decide +kernel) (by decide +kernel)
set_option maxRecDepth 20000 in
theorem gX8_day_X8_isLane : GoodIn wsX8_day (va_wsS RX8 87 yX8_isLane wsX8_isLane) := goodIn_app (goodIn_of _ (by decide +kernel)) ggX8_day_X8_isLane
set_option maxRecDepth 20000 in
theorem ggX8_day_X8_isOfDay : GoodIn wsX8_day wsX8_isOfDay := goodIn_r _ [14] (by decide +kernel) (by decide +kernel)
set_option maxRecDepth 20000 in
theorem gX8_day_X8_isOfDay : GoodIn wsX8_day (va_wsS RX8 182 yX8_isOfDay wsX8_isOfDay) := goodIn_app (goodIn_of _ (by decide +kernel)) ggX8_day_X8_isOfDay
set_option maxRecDepth 20000 in
theorem ggX8_day_X5_faultTakenAs : GoodIn wsX8_day wsX5_faultTakenAs := goodIn_r _ [19, 20, 21, 160, 161, 162, 163] (by decide +kernel) (by decide +kernel)
set_option maxRecDepth 20000 in
theorem gX8_day_X5_faultTakenAs : GoodIn wsX8_day (wsV RX8 90 RX5 yX5_faultTakenAs wsX5_faultTakenAs) := goodIn_app (goodIn_of _ (by decide +kernel)) ggX8_day_X5_faultTakenAs
set_option maxRecDepth 20000 in
theorem ggX8_day_X8_lost : GoodIn wsX8_day wsX8_lost := goodIn_r _ [25, 1, 2, 147, 148, 149, 150, 151, 152, 153, 154, 155, 156, 157, 158, 159] (by decide +kernel) (by decide +kernel)
set_option maxRecDepth 20000 in
theorem gX8_day_X8_lost : GoodIn wsX8_day (wsV RX8 185 RX8 yX8_lost wsX8_lost) := goodIn_app (goodIn_of _ (by decide +kernel)) ggX8_day_X8_lost
set_option maxRecDepth 20000 in
theorem ggX8_day_X5_hasCells : GoodIn wsX8_day wsX5_hasCells := goodIn_r _ [29, 30, 160, 161, 162, 163] (by decide +kernel) (by decide +kernel)
set_option maxRecDepth 20000 in
theorem gX8_day_X5_hasCells : GoodIn wsX8_day (wsV RX8 97 RX5 yX5_hasCells wsX5_hasCells) := goodIn_app (goodIn_of _ (by decide +kernel)) ggX8_day_X5_hasCells
set_option maxRecDepth 20000 in
theorem ggX8_day_X3_areThere : GoodIn wsX8_day wsX3_areThere := goodIn_r _ [35, 36, 164, 165, 166] (by decide +kernel) (by decide +kernel)
set_option maxRecDepth 20000 in
theorem gX8_day_X3_areThere : GoodIn wsX8_day (wsV RX8 178 RX3 yX3_areThere wsX3_areThere) := goodIn_app (goodIn_of _ (by decide +kernel)) ggX8_day_X3_areThere
set_option maxRecDepth 20000 in
theorem ggX8_day_X8_sortsAreKnown : GoodIn wsX8_day wsX8_sortsAreKnown := goodIn_r _ [39, 40, 41, 42, 18, 43, 30, 44, 160, 161, 162, 163] (by decide +kernel) (by decide +kernel)
set_option maxRecDepth 20000 in
theorem gX8_day_X8_sortsAreKnown : GoodIn wsX8_day (va_wsS RX8 189 yX8_sortsAreKnown wsX8_sortsAreKnown) := goodIn_app (goodIn_of _ (by decide +kernel)) ggX8_day_X8_sortsAreKnown
set_option maxRecDepth 20000 in
theorem ggX8_day_X8_playDay : GoodIn wsX8_day wsX8_playDay := goodIn_r _ [48, 49, 4, 50, 51, 52, 53, 54, 34, 55, 36, 56, 57, 58, 59, 60, 61, 62, 63, 64, 65, 40, 41, 42, 18, 43, 30, 44, 66, 67, 68, 69, 70, 71, 72, 73, 74, 75, 76, 77, 7, 78, 79, 80, 81, 82, 83, 84, 85, 86, 87, 88, 89, 90, 91, 92, 93, 94, 95, 96, 97, 98, 99, 100, 101, 102, 103, 104, 105, 106, 107, 108, 109, 110, 111, 112, 113, 114, 115, 116, 117, 118, 119, 120, 121, 122, 123, 124, 125, 126, 127, 128, 147, 148, 149, 150, 151, 152, 153, 154, 155, 156, 157, 158, 159, 164, 165, 166, 160, 161, 162, 163, 167, 168, 169, 170, 171, 172, 173] (by decide +kernel) (by decide +kernel)
set_option maxRecDepth 20000 in
theorem gX8_day_X8_playDay : GoodIn wsX8_day (wsV RX8 193 RX8 yX8_playDay wsX8_playDay) := goodIn_app (goodIn_of _ (by decide +kernel)) ggX8_day_X8_playDay
set_option maxRecDepth 20000 in
theorem ggX8_day_X8_ofTrial : GoodIn wsX8_day wsX8_ofTrial := goodIn_r _ [132, 49, 133, 134, 135, 2, 136, 137, 7, 138, 139, 140, 141, 142, 108, 109, 110, 143, 144, 145, 146, 127, 128, 86, 87, 88, 34, 89, 36, 147, 148, 149, 150, 151, 152, 153, 154, 155, 156, 157, 158, 159, 164, 165, 166] (by decide +kernel) (by decide +kernel)
set_option maxRecDepth 20000 in
theorem gX8_day_X8_ofTrial : GoodIn wsX8_day (wsV RX8 196 RX8 yX8_ofTrial wsX8_ofTrial) := goodIn_app (goodIn_of _ (by decide +kernel)) ggX8_day_X8_ofTrial
theorem dX8_day_0 : decode cX8_day 0 = .ok (.aload_n 0, 1) := by decide +kernel
theorem dX8_day_1 : decode cX8_day 1 = .ok (.iconst 0, 1) := by decide +kernel
theorem dX8_day_2 : decode cX8_day 2 = .ok (.putfield 79, 3) := by decide +kernel
theorem dX8_day_5 : decode cX8_day 5 = .ok (.iload_n 1, 1) := by decide +kernel
theorem dX8_day_6 : decode cX8_day 6 = .ok (.invokestatic 83, 3) := by decide +kernel
theorem dX8_day_9 : decode cX8_day 9 = .ok (.ifCond .eq 30, 3) := by decide +kernel
theorem dX8_day_12 : decode cX8_day 12 = .ok (.iload_n 2, 1) := by decide +kernel
theorem dX8_day_13 : decode cX8_day 13 = .ok (.invokestatic 87, 3) := by decide +kernel
theorem dX8_day_16 : decode cX8_day 16 = .ok (.ifCond .eq 23, 3) := by decide +kernel
theorem dX8_day_19 : decode cX8_day 19 = .ok (.iload 4, 2) := by decide +kernel
theorem dX8_day_21 : decode cX8_day 21 = .ok (.ifCond .lt 18, 3) := by decide +kernel
theorem dX8_day_24 : decode cX8_day 24 = .ok (.iload 4, 2) := by decide +kernel
theorem dX8_day_26 : decode cX8_day 26 = .ok (.bipush 12, 2) := by decide +kernel
theorem dX8_day_28 : decode cX8_day 28 = .ok (.if_icmp .gt 11, 3) := by decide +kernel
theorem dX8_day_31 : decode cX8_day 31 = .ok (.iload 5, 2) := by decide +kernel
theorem dX8_day_33 : decode cX8_day 33 = .ok (.invokestatic 182, 3) := by decide +kernel
theorem dX8_day_36 : decode cX8_day 36 = .ok (.ifCond .ne 7, 3) := by decide +kernel
theorem dX8_day_39 : decode cX8_day 39 = .ok (.ldc2_w 161, 3) := by decide +kernel
theorem dX8_day_42 : decode cX8_day 42 = .ok (.lreturn, 1) := by decide +kernel
theorem dX8_day_43 : decode cX8_day 43 = .ok (.aload_n 0, 1) := by decide +kernel
theorem dX8_day_44 : decode cX8_day 44 = .ok (.getfield 13, 3) := by decide +kernel
theorem dX8_day_47 : decode cX8_day 47 = .ok (.iload_n 1, 1) := by decide +kernel
theorem dX8_day_48 : decode cX8_day 48 = .ok (.aaload, 1) := by decide +kernel
theorem dX8_day_49 : decode cX8_day 49 = .ok (.astore 6, 2) := by decide +kernel
theorem dX8_day_51 : decode cX8_day 51 = .ok (.aload 6, 2) := by decide +kernel
theorem dX8_day_53 : decode cX8_day 53 = .ok (.iload_n 2, 1) := by decide +kernel
theorem dX8_day_54 : decode cX8_day 54 = .ok (.invokevirtual 90, 3) := by decide +kernel
theorem dX8_day_57 : decode cX8_day 57 = .ok (.istore 7, 2) := by decide +kernel
theorem dX8_day_59 : decode cX8_day 59 = .ok (.iload 7, 2) := by decide +kernel
theorem dX8_day_61 : decode cX8_day 61 = .ok (.ifCond .eq 10, 3) := by decide +kernel
theorem dX8_day_64 : decode cX8_day 64 = .ok (.aload_n 0, 1) := by decide +kernel
theorem dX8_day_65 : decode cX8_day 65 = .ok (.iload 7, 2) := by decide +kernel
theorem dX8_day_67 : decode cX8_day 67 = .ok (.invokevirtual 185, 3) := by decide +kernel
theorem dX8_day_70 : decode cX8_day 70 = .ok (.lreturn, 1) := by decide +kernel
theorem dX8_day_71 : decode cX8_day 71 = .ok (.aload 6, 2) := by decide +kernel
theorem dX8_day_73 : decode cX8_day 73 = .ok (.iload_n 3, 1) := by decide +kernel
theorem dX8_day_74 : decode cX8_day 74 = .ok (.iconst 4, 1) := by decide +kernel
theorem dX8_day_75 : decode cX8_day 75 = .ok (.iload 4, 2) := by decide +kernel
theorem dX8_day_77 : decode cX8_day 77 = .ok (.imul, 1) := by decide +kernel
theorem dX8_day_78 : decode cX8_day 78 = .ok (.invokevirtual 97, 3) := by decide +kernel
theorem dX8_day_81 : decode cX8_day 81 = .ok (.ifCond .ne 9, 3) := by decide +kernel
theorem dX8_day_84 : decode cX8_day 84 = .ok (.aload_n 0, 1) := by decide +kernel
theorem dX8_day_85 : decode cX8_day 85 = .ok (.iconst 3, 1) := by decide +kernel
theorem dX8_day_86 : decode cX8_day 86 = .ok (.invokevirtual 185, 3) := by decide +kernel
theorem dX8_day_89 : decode cX8_day 89 = .ok (.lreturn, 1) := by decide +kernel
theorem dX8_day_90 : decode cX8_day 90 = .ok (.aload_n 0, 1) := by decide +kernel
theorem dX8_day_91 : decode cX8_day 91 = .ok (.getfield 51, 3) := by decide +kernel
theorem dX8_day_94 : decode cX8_day 94 = .ok (.invokevirtual 178, 3) := by decide +kernel
theorem dX8_day_97 : decode cX8_day 97 = .ok (.ifCond .eq 14, 3) := by decide +kernel
theorem dX8_day_100 : decode cX8_day 100 = .ok (.aload 6, 2) := by decide +kernel
theorem dX8_day_102 : decode cX8_day 102 = .ok (.iload_n 3, 1) := by decide +kernel
theorem dX8_day_103 : decode cX8_day 103 = .ok (.iload 4, 2) := by decide +kernel
theorem dX8_day_105 : decode cX8_day 105 = .ok (.invokestatic 189, 3) := by decide +kernel
theorem dX8_day_108 : decode cX8_day 108 = .ok (.ifCond .ne 7, 3) := by decide +kernel
theorem dX8_day_111 : decode cX8_day 111 = .ok (.ldc2_w 161, 3) := by decide +kernel
theorem dX8_day_114 : decode cX8_day 114 = .ok (.lreturn, 1) := by decide +kernel
theorem dX8_day_115 : decode cX8_day 115 = .ok (.aload_n 0, 1) := by decide +kernel
theorem dX8_day_116 : decode cX8_day 116 = .ok (.aload 6, 2) := by decide +kernel
theorem dX8_day_118 : decode cX8_day 118 = .ok (.iload_n 3, 1) := by decide +kernel
theorem dX8_day_119 : decode cX8_day 119 = .ok (.iload 4, 2) := by decide +kernel
theorem dX8_day_121 : decode cX8_day 121 = .ok (.invokevirtual 193, 3) := by decide +kernel
theorem dX8_day_124 : decode cX8_day 124 = .ok (.istore 8, 2) := by decide +kernel
theorem dX8_day_126 : decode cX8_day 126 = .ok (.iload 5, 2) := by decide +kernel
theorem dX8_day_128 : decode cX8_day 128 = .ok (.iconst 1, 1) := by decide +kernel
theorem dX8_day_129 : decode cX8_day 129 = .ok (.if_icmp .ne 7, 3) := by decide +kernel
theorem dX8_day_132 : decode cX8_day 132 = .ok (.iload 8, 2) := by decide +kernel
theorem dX8_day_134 : decode cX8_day 134 = .ok (.i2l, 1) := by decide +kernel
theorem dX8_day_135 : decode cX8_day 135 = .ok (.lreturn, 1) := by decide +kernel
theorem dX8_day_136 : decode cX8_day 136 = .ok (.iload 8, 2) := by decide +kernel
theorem dX8_day_138 : decode cX8_day 138 = .ok (.bipush (-9), 2) := by decide +kernel
theorem dX8_day_140 : decode cX8_day 140 = .ok (.if_icmp .eq 12, 3) := by decide +kernel
theorem dX8_day_143 : decode cX8_day 143 = .ok (.bipush (-100), 2) := by decide +kernel
theorem dX8_day_145 : decode cX8_day 145 = .ok (.iload 8, 2) := by decide +kernel
theorem dX8_day_147 : decode cX8_day 147 = .ok (.isub, 1) := by decide +kernel
theorem dX8_day_148 : decode cX8_day 148 = .ok (.i2l, 1) := by decide +kernel
theorem dX8_day_149 : decode cX8_day 149 = .ok (.goto 9, 3) := by decide +kernel
theorem dX8_day_152 : decode cX8_day 152 = .ok (.aload_n 0, 1) := by decide +kernel
theorem dX8_day_153 : decode cX8_day 153 = .ok (.iload 5, 2) := by decide +kernel
theorem dX8_day_155 : decode cX8_day 155 = .ok (.invokevirtual 196, 3) := by decide +kernel
theorem dX8_day_158 : decode cX8_day 158 = .ok (.lreturn, 1) := by decide +kernel
set_option maxRecDepth 20000 in
theorem ggX8_act_X2_next : GoodIn wsX8_act wsX2_next := goodIn_r _ [8, 9, 10, 74, 75] (by decide +kernel) (by decide +kernel)
set_option maxRecDepth 20000 in
theorem gX8_act_X2_next : GoodIn wsX8_act (wsV RX8 199 RX2 yX2_next wsX2_next) := goodIn_app (goodIn_of _ (by decide +kernel)) ggX8_act_X2_next
set_option maxRecDepth 20000 in
theorem ggX8_act_X0_become : GoodIn wsX8_act wsX0_become := goodIn_r _ [15, 16, 17, 18, 19, 76, 77, 78, 79] (by decide +kernel) (by decide +kernel)
set_option maxRecDepth 20000 in
theorem gX8_act_X0_become : GoodIn wsX8_act (wsV RX8 203 RX0 yX0_become wsX0_become) := goodIn_app (goodIn_of _ (by decide +kernel)) ggX8_act_X0_become
set_option maxRecDepth 20000 in
theorem ggX8_act_X3_suffer : GoodIn wsX8_act wsX3_suffer := goodIn_r _ [24, 25, 26, 27, 28, 29, 30, 31, 32, 33, 34, 35, 36, 23, 37, 38, 39, 40, 41, 14, 42, 16, 19, 43, 44, 45, 46, 47, 48, 49, 50, 51, 52, 53, 54, 55, 56, 57, 58, 59, 60, 76, 77, 78, 79, 80, 81, 82, 83, 84, 85] (by decide +kernel) (by decide +kernel)
set_option maxRecDepth 20000 in
theorem gX8_act_X3_suffer : GoodIn wsX8_act (wsV RX8 207 RX3 yX3_suffer wsX3_suffer) := goodIn_app (goodIn_of _ (by decide +kernel)) ggX8_act_X3_suffer
theorem dX8_act_0 : decode cX8_act 0 = .ok (.aload_n 0, 1) := by decide +kernel
theorem dX8_act_1 : decode cX8_act 1 = .ok (.getfield 37, 3) := by decide +kernel
theorem dX8_act_4 : decode cX8_act 4 = .ok (.invokevirtual 199, 3) := by decide +kernel
theorem dX8_act_7 : decode cX8_act 7 = .ok (.astore 6, 2) := by decide +kernel
theorem dX8_act_9 : decode cX8_act 9 = .ok (.aload 6, 2) := by decide +kernel
theorem dX8_act_11 : decode cX8_act 11 = .ok (.ifnonnull 6, 3) := by decide +kernel
theorem dX8_act_14 : decode cX8_act 14 = .ok (.bipush (-4), 2) := by decide +kernel
theorem dX8_act_16 : decode cX8_act 16 = .ok (.ireturn, 1) := by decide +kernel
theorem dX8_act_17 : decode cX8_act 17 = .ok (.aload 6, 2) := by decide +kernel
theorem dX8_act_19 : decode cX8_act 19 = .ok (.iload_n 1, 1) := by decide +kernel
theorem dX8_act_20 : decode cX8_act 20 = .ok (.iload_n 2, 1) := by decide +kernel
theorem dX8_act_21 : decode cX8_act 21 = .ok (.iload_n 3, 1) := by decide +kernel
theorem dX8_act_22 : decode cX8_act 22 = .ok (.lload 4, 2) := by decide +kernel
theorem dX8_act_24 : decode cX8_act 24 = .ok (.invokevirtual 203, 3) := by decide +kernel
theorem dX8_act_27 : decode cX8_act 27 = .ok (.aload_n 0, 1) := by decide +kernel
theorem dX8_act_28 : decode cX8_act 28 = .ok (.getfield 51, 3) := by decide +kernel
theorem dX8_act_31 : decode cX8_act 31 = .ok (.aload 6, 2) := by decide +kernel
theorem dX8_act_33 : decode cX8_act 33 = .ok (.aload_n 0, 1) := by decide +kernel
theorem dX8_act_34 : decode cX8_act 34 = .ok (.getfield 27, 3) := by decide +kernel
theorem dX8_act_37 : decode cX8_act 37 = .ok (.invokevirtual 207, 3) := by decide +kernel
theorem dX8_act_40 : decode cX8_act 40 = .ok (.ireturn, 1) := by decide +kernel
theorem dX8_isOfDay_0 : decode cX8_isOfDay 0 = .ok (.iload_n 0, 1) := by decide +kernel
theorem dX8_isOfDay_1 : decode cX8_isOfDay 1 = .ok (.ifCond .lt 8, 3) := by decide +kernel
theorem dX8_isOfDay_4 : decode cX8_isOfDay 4 = .ok (.iload_n 0, 1) := by decide +kernel
theorem dX8_isOfDay_5 : decode cX8_isOfDay 5 = .ok (.iconst 4, 1) := by decide +kernel
theorem dX8_isOfDay_6 : decode cX8_isOfDay 6 = .ok (.if_icmp .le 15, 3) := by decide +kernel
theorem dX8_isOfDay_9 : decode cX8_isOfDay 9 = .ok (.iload_n 0, 1) := by decide +kernel
theorem dX8_isOfDay_10 : decode cX8_isOfDay 10 = .ok (.bipush 10, 2) := by decide +kernel
theorem dX8_isOfDay_12 : decode cX8_isOfDay 12 = .ok (.if_icmp .lt 13, 3) := by decide +kernel
theorem dX8_isOfDay_15 : decode cX8_isOfDay 15 = .ok (.iload_n 0, 1) := by decide +kernel
theorem dX8_isOfDay_16 : decode cX8_isOfDay 16 = .ok (.bipush 26, 2) := by decide +kernel
theorem dX8_isOfDay_18 : decode cX8_isOfDay 18 = .ok (.if_icmp .ge 7, 3) := by decide +kernel
theorem dX8_isOfDay_21 : decode cX8_isOfDay 21 = .ok (.iconst 1, 1) := by decide +kernel
theorem dX8_isOfDay_22 : decode cX8_isOfDay 22 = .ok (.goto 4, 3) := by decide +kernel
theorem dX8_isOfDay_25 : decode cX8_isOfDay 25 = .ok (.iconst 0, 1) := by decide +kernel
theorem dX8_isOfDay_26 : decode cX8_isOfDay 26 = .ok (.ireturn, 1) := by decide +kernel
set_option maxRecDepth 20000 in
theorem ggX8_sortsAreKnown_X5_code : GoodIn wsX8_sortsAreKnown wsX5_code := goodIn_r _ [5, 6, 7, 8, 9, 10, 11] (by decide +kernel) (by decide +kernel)
set_option maxRecDepth 20000 in
theorem gX8_sortsAreKnown_X5_code : GoodIn wsX8_sortsAreKnown (wsV RX8 211 RX5 yX5_code wsX5_code) := goodIn_app (goodIn_of _ (by decide +kernel)) ggX8_sortsAreKnown_X5_code
theorem dX8_sortsAreKnown_0 : decode cX8_sortsAreKnown 0 = .ok (.iconst 0, 1) := by decide +kernel
theorem dX8_sortsAreKnown_1 : decode cX8_sortsAreKnown 1 = .ok (.istore_n 3, 1) := by decide +kernel
theorem dX8_sortsAreKnown_2 : decode cX8_sortsAreKnown 2 = .ok (.iload_n 3, 1) := by decide +kernel
theorem dX8_sortsAreKnown_3 : decode cX8_sortsAreKnown 3 = .ok (.iload_n 2, 1) := by decide +kernel
theorem dX8_sortsAreKnown_4 : decode cX8_sortsAreKnown 4 = .ok (.if_icmp .ge 33, 3) := by decide +kernel
theorem dX8_sortsAreKnown_7 : decode cX8_sortsAreKnown 7 = .ok (.aload_n 0, 1) := by decide +kernel
theorem dX8_sortsAreKnown_8 : decode cX8_sortsAreKnown 8 = .ok (.iload_n 1, 1) := by decide +kernel
theorem dX8_sortsAreKnown_9 : decode cX8_sortsAreKnown 9 = .ok (.iconst 4, 1) := by decide +kernel
theorem dX8_sortsAreKnown_10 : decode cX8_sortsAreKnown 10 = .ok (.iload_n 3, 1) := by decide +kernel
theorem dX8_sortsAreKnown_11 : decode cX8_sortsAreKnown 11 = .ok (.imul, 1) := by decide +kernel
theorem dX8_sortsAreKnown_12 : decode cX8_sortsAreKnown 12 = .ok (.iadd, 1) := by decide +kernel
theorem dX8_sortsAreKnown_13 : decode cX8_sortsAreKnown 13 = .ok (.invokevirtual 211, 3) := by decide +kernel
theorem dX8_sortsAreKnown_16 : decode cX8_sortsAreKnown 16 = .ok (.istore 4, 2) := by decide +kernel
theorem dX8_sortsAreKnown_18 : decode cX8_sortsAreKnown 18 = .ok (.iload 4, 2) := by decide +kernel
theorem dX8_sortsAreKnown_20 : decode cX8_sortsAreKnown 20 = .ok (.ifCond .lt 9, 3) := by decide +kernel
theorem dX8_sortsAreKnown_23 : decode cX8_sortsAreKnown 23 = .ok (.iload 4, 2) := by decide +kernel
theorem dX8_sortsAreKnown_25 : decode cX8_sortsAreKnown 25 = .ok (.iconst 4, 1) := by decide +kernel
theorem dX8_sortsAreKnown_26 : decode cX8_sortsAreKnown 26 = .ok (.if_icmp .le 5, 3) := by decide +kernel
theorem dX8_sortsAreKnown_29 : decode cX8_sortsAreKnown 29 = .ok (.iconst 0, 1) := by decide +kernel
theorem dX8_sortsAreKnown_30 : decode cX8_sortsAreKnown 30 = .ok (.ireturn, 1) := by decide +kernel
theorem dX8_sortsAreKnown_31 : decode cX8_sortsAreKnown 31 = .ok (.iinc 3 1, 3) := by decide +kernel
theorem dX8_sortsAreKnown_34 : decode cX8_sortsAreKnown 34 = .ok (.goto (-32), 3) := by decide +kernel
theorem dX8_sortsAreKnown_37 : decode cX8_sortsAreKnown 37 = .ok (.iconst 1, 1) := by decide +kernel
theorem dX8_sortsAreKnown_38 : decode cX8_sortsAreKnown 38 = .ok (.ireturn, 1) := by decide +kernel
set_option maxRecDepth 20000 in
theorem ggX8_playDay_X3_becomeLike : GoodIn wsX8_playDay wsX3_becomeLike := goodIn_r _ [9, 10, 11, 12, 13, 14, 15, 16, 17, 18, 8, 19, 20, 105, 106, 107] (by decide +kernel) (by decide +kernel)
set_option maxRecDepth 20000 in
theorem gX8_playDay_X3_becomeLike : GoodIn wsX8_playDay (wsV RX8 139 RX3 yX3_becomeLike wsX3_becomeLike) := goodIn_app (goodIn_of _ (by decide +kernel)) ggX8_playDay_X3_becomeLike
set_option maxRecDepth 20000 in
theorem ggX8_playDay_X5_code : GoodIn wsX8_playDay wsX5_code := goodIn_r _ [25, 26, 27, 108, 109, 110, 111] (by decide +kernel) (by decide +kernel)
set_option maxRecDepth 20000 in
theorem gX8_playDay_X5_code : GoodIn wsX8_playDay (wsV RX8 211 RX5 yX5_code wsX5_code) := goodIn_app (goodIn_of _ (by decide +kernel)) ggX8_playDay_X5_code
set_option maxRecDepth 20000 in
theorem ggX8_playDay_X0_become : GoodIn wsX8_playDay wsX0_become := goodIn_r _ [32, 33, 34, 35, 36, 112, 113, 114, 115] (by decide +kernel) (by decide +kernel)
set_option maxRecDepth 20000 in
theorem gX8_playDay_X0_become : GoodIn wsX8_playDay (wsV RX8 203 RX0 yX0_become wsX0_become) := goodIn_app (goodIn_of _ (by decide +kernel)) ggX8_playDay_X0_become
set_option maxRecDepth 20000 in
theorem ggX8_playDay_X8_canBe : GoodIn wsX8_playDay wsX8_canBe := goodIn_r _ [41, 42, 43, 4, 44, 45, 46, 47, 40, 48, 2, 49, 50, 51, 8, 52, 10, 53, 54, 55, 31, 56, 33, 57, 58, 59, 60, 61, 62, 112, 113, 114, 115, 92, 93, 94, 95, 96, 97, 98, 99, 100, 101, 102, 103, 104, 105, 106, 107, 116, 117, 118] (by decide +kernel) (by decide +kernel)
set_option maxRecDepth 20000 in
theorem gX8_playDay_X8_canBe : GoodIn wsX8_playDay (wsV RX8 214 RX8 yX8_canBe wsX8_canBe) := goodIn_app (goodIn_of _ (by decide +kernel)) ggX8_playDay_X8_canBe
set_option maxRecDepth 20000 in
theorem ggX8_playDay_X3_suffer : GoodIn wsX8_playDay wsX3_suffer := goodIn_r _ [66, 67, 68, 11, 69, 20, 70, 71, 72, 73, 74, 50, 51, 8, 52, 10, 75, 76, 77, 31, 78, 33, 36, 79, 80, 81, 60, 82, 83, 84, 85, 58, 59, 61, 62, 86, 87, 88, 89, 90, 91, 112, 113, 114, 115, 105, 106, 107, 116, 117, 118] (by decide +kernel) (by decide +kernel)
set_option maxRecDepth 20000 in
theorem gX8_playDay_X3_suffer : GoodIn wsX8_playDay (wsV RX8 207 RX3 yX3_suffer wsX3_suffer) := goodIn_app (goodIn_of _ (by decide +kernel)) ggX8_playDay_X3_suffer
theorem dX8_playDay_0 : decode cX8_playDay 0 = .ok (.aload_n 0, 1) := by decide +kernel
theorem dX8_playDay_1 : decode cX8_playDay 1 = .ok (.getfield 58, 3) := by decide +kernel
theorem dX8_playDay_4 : decode cX8_playDay 4 = .ok (.aload_n 0, 1) := by decide +kernel
theorem dX8_playDay_5 : decode cX8_playDay 5 = .ok (.getfield 51, 3) := by decide +kernel
theorem dX8_playDay_8 : decode cX8_playDay 8 = .ok (.invokevirtual 139, 3) := by decide +kernel
theorem dX8_playDay_11 : decode cX8_playDay 11 = .ok (.iconst 0, 1) := by decide +kernel
theorem dX8_playDay_12 : decode cX8_playDay 12 = .ok (.istore 4, 2) := by decide +kernel
theorem dX8_playDay_14 : decode cX8_playDay 14 = .ok (.iload 4, 2) := by decide +kernel
theorem dX8_playDay_16 : decode cX8_playDay 16 = .ok (.iload_n 3, 1) := by decide +kernel
theorem dX8_playDay_17 : decode cX8_playDay 17 = .ok (.if_icmp .ge 85, 3) := by decide +kernel
theorem dX8_playDay_20 : decode cX8_playDay 20 = .ok (.iload_n 2, 1) := by decide +kernel
theorem dX8_playDay_21 : decode cX8_playDay 21 = .ok (.iconst 4, 1) := by decide +kernel
theorem dX8_playDay_22 : decode cX8_playDay 22 = .ok (.iload 4, 2) := by decide +kernel
theorem dX8_playDay_24 : decode cX8_playDay 24 = .ok (.imul, 1) := by decide +kernel
theorem dX8_playDay_25 : decode cX8_playDay 25 = .ok (.iadd, 1) := by decide +kernel
theorem dX8_playDay_26 : decode cX8_playDay 26 = .ok (.istore 5, 2) := by decide +kernel
theorem dX8_playDay_28 : decode cX8_playDay 28 = .ok (.aload_n 0, 1) := by decide +kernel
theorem dX8_playDay_29 : decode cX8_playDay 29 = .ok (.getfield 44, 3) := by decide +kernel
theorem dX8_playDay_32 : decode cX8_playDay 32 = .ok (.aload_n 1, 1) := by decide +kernel
theorem dX8_playDay_33 : decode cX8_playDay 33 = .ok (.iload 5, 2) := by decide +kernel
theorem dX8_playDay_35 : decode cX8_playDay 35 = .ok (.invokevirtual 211, 3) := by decide +kernel
theorem dX8_playDay_38 : decode cX8_playDay 38 = .ok (.aload_n 1, 1) := by decide +kernel
theorem dX8_playDay_39 : decode cX8_playDay 39 = .ok (.iload 5, 2) := by decide +kernel
theorem dX8_playDay_41 : decode cX8_playDay 41 = .ok (.iconst 1, 1) := by decide +kernel
theorem dX8_playDay_42 : decode cX8_playDay 42 = .ok (.iadd, 1) := by decide +kernel
theorem dX8_playDay_43 : decode cX8_playDay 43 = .ok (.invokevirtual 211, 3) := by decide +kernel
theorem dX8_playDay_46 : decode cX8_playDay 46 = .ok (.aload_n 1, 1) := by decide +kernel
theorem dX8_playDay_47 : decode cX8_playDay 47 = .ok (.iload 5, 2) := by decide +kernel
theorem dX8_playDay_49 : decode cX8_playDay 49 = .ok (.iconst 2, 1) := by decide +kernel
theorem dX8_playDay_50 : decode cX8_playDay 50 = .ok (.iadd, 1) := by decide +kernel
theorem dX8_playDay_51 : decode cX8_playDay 51 = .ok (.invokevirtual 211, 3) := by decide +kernel
theorem dX8_playDay_54 : decode cX8_playDay 54 = .ok (.aload_n 1, 1) := by decide +kernel
theorem dX8_playDay_55 : decode cX8_playDay 55 = .ok (.iload 5, 2) := by decide +kernel
theorem dX8_playDay_57 : decode cX8_playDay 57 = .ok (.iconst 3, 1) := by decide +kernel
theorem dX8_playDay_58 : decode cX8_playDay 58 = .ok (.iadd, 1) := by decide +kernel
theorem dX8_playDay_59 : decode cX8_playDay 59 = .ok (.invokevirtual 211, 3) := by decide +kernel
theorem dX8_playDay_62 : decode cX8_playDay 62 = .ok (.i2l, 1) := by decide +kernel
theorem dX8_playDay_63 : decode cX8_playDay 63 = .ok (.invokevirtual 203, 3) := by decide +kernel
theorem dX8_playDay_66 : decode cX8_playDay 66 = .ok (.aload_n 0, 1) := by decide +kernel
theorem dX8_playDay_67 : decode cX8_playDay 67 = .ok (.aload_n 0, 1) := by decide +kernel
theorem dX8_playDay_68 : decode cX8_playDay 68 = .ok (.getfield 44, 3) := by decide +kernel
theorem dX8_playDay_71 : decode cX8_playDay 71 = .ok (.invokevirtual 214, 3) := by decide +kernel
theorem dX8_playDay_74 : decode cX8_playDay 74 = .ok (.ifCond .ne 6, 3) := by decide +kernel
theorem dX8_playDay_77 : decode cX8_playDay 77 = .ok (.iload 4, 2) := by decide +kernel
theorem dX8_playDay_79 : decode cX8_playDay 79 = .ok (.ireturn, 1) := by decide +kernel
theorem dX8_playDay_80 : decode cX8_playDay 80 = .ok (.aload_n 0, 1) := by decide +kernel
theorem dX8_playDay_81 : decode cX8_playDay 81 = .ok (.getfield 58, 3) := by decide +kernel
theorem dX8_playDay_84 : decode cX8_playDay 84 = .ok (.aload_n 0, 1) := by decide +kernel
theorem dX8_playDay_85 : decode cX8_playDay 85 = .ok (.getfield 44, 3) := by decide +kernel
theorem dX8_playDay_88 : decode cX8_playDay 88 = .ok (.aload_n 0, 1) := by decide +kernel
theorem dX8_playDay_89 : decode cX8_playDay 89 = .ok (.getfield 27, 3) := by decide +kernel
theorem dX8_playDay_92 : decode cX8_playDay 92 = .ok (.invokevirtual 207, 3) := by decide +kernel
theorem dX8_playDay_95 : decode cX8_playDay 95 = .ok (.pop, 1) := by decide +kernel
theorem dX8_playDay_96 : decode cX8_playDay 96 = .ok (.iinc 4 1, 3) := by decide +kernel
theorem dX8_playDay_99 : decode cX8_playDay 99 = .ok (.goto (-85), 3) := by decide +kernel
theorem dX8_playDay_102 : decode cX8_playDay 102 = .ok (.bipush (-9), 2) := by decide +kernel
theorem dX8_playDay_104 : decode cX8_playDay 104 = .ok (.ireturn, 1) := by decide +kernel
set_option maxRecDepth 20000 in
theorem ggX8_canBe_X8_refusedRun : GoodIn wsX8_canBe wsX8_refusedRun := goodIn_r _ [9, 10, 11, 12, 13, 14, 15, 16, 33, 34, 35, 36, 37, 38, 39, 40, 41, 42, 43, 44, 45, 46, 47, 48] (by decide +kernel) (by decide +kernel)
set_option maxRecDepth 20000 in
theorem gX8_canBe_X8_refusedRun : GoodIn wsX8_canBe (wsV RX8 174 RX8 yX8_refusedRun wsX8_refusedRun) := goodIn_app (goodIn_of _ (by decide +kernel)) ggX8_canBe_X8_refusedRun
set_option maxRecDepth 20000 in
theorem ggX8_canBe_X0_isHelp : GoodIn wsX8_canBe wsX0_isHelp := goodIn_r _ [21, 22, 29, 30, 31, 32] (by decide +kernel) (by decide +kernel)
set_option maxRecDepth 20000 in
theorem gX8_canBe_X0_isHelp : GoodIn wsX8_canBe (wsV RX8 224 RX0 yX0_isHelp wsX0_isHelp) := goodIn_app (goodIn_of _ (by decide +kernel)) ggX8_canBe_X0_isHelp
set_option maxRecDepth 20000 in
theorem ggX8_canBe_X1_has : GoodIn wsX8_canBe wsX1_has := goodIn_r _ [27, 28, 49, 50, 51] (by decide +kernel) (by decide +kernel)
set_option maxRecDepth 20000 in
theorem gX8_canBe_X1_has : GoodIn wsX8_canBe (wsV RX8 142 RX1 yX1_has wsX1_has) := goodIn_app (goodIn_of _ (by decide +kernel)) ggX8_canBe_X1_has
theorem dX8_canBe_0 : decode cX8_canBe 0 = .ok (.aload_n 0, 1) := by decide +kernel
theorem dX8_canBe_1 : decode cX8_canBe 1 = .ok (.aload_n 1, 1) := by decide +kernel
theorem dX8_canBe_2 : decode cX8_canBe 2 = .ok (.getfield 218, 3) := by decide +kernel
theorem dX8_canBe_5 : decode cX8_canBe 5 = .ok (.aload_n 1, 1) := by decide +kernel
theorem dX8_canBe_6 : decode cX8_canBe 6 = .ok (.getfield 221, 3) := by decide +kernel
theorem dX8_canBe_9 : decode cX8_canBe 9 = .ok (.invokevirtual 174, 3) := by decide +kernel
theorem dX8_canBe_12 : decode cX8_canBe 12 = .ok (.ifCond .ne 28, 3) := by decide +kernel
theorem dX8_canBe_15 : decode cX8_canBe 15 = .ok (.aload_n 1, 1) := by decide +kernel
theorem dX8_canBe_16 : decode cX8_canBe 16 = .ok (.invokevirtual 224, 3) := by decide +kernel
theorem dX8_canBe_19 : decode cX8_canBe 19 = .ok (.ifCond .eq 17, 3) := by decide +kernel
theorem dX8_canBe_22 : decode cX8_canBe 22 = .ok (.aload_n 0, 1) := by decide +kernel
theorem dX8_canBe_23 : decode cX8_canBe 23 = .ok (.getfield 27, 3) := by decide +kernel
theorem dX8_canBe_26 : decode cX8_canBe 26 = .ok (.aload_n 1, 1) := by decide +kernel
theorem dX8_canBe_27 : decode cX8_canBe 27 = .ok (.getfield 227, 3) := by decide +kernel
theorem dX8_canBe_30 : decode cX8_canBe 30 = .ok (.invokevirtual 142, 3) := by decide +kernel
theorem dX8_canBe_33 : decode cX8_canBe 33 = .ok (.ifCond .eq 7, 3) := by decide +kernel
theorem dX8_canBe_36 : decode cX8_canBe 36 = .ok (.iconst 1, 1) := by decide +kernel
theorem dX8_canBe_37 : decode cX8_canBe 37 = .ok (.goto 4, 3) := by decide +kernel
theorem dX8_canBe_40 : decode cX8_canBe 40 = .ok (.iconst 0, 1) := by decide +kernel
theorem dX8_canBe_41 : decode cX8_canBe 41 = .ok (.ireturn, 1) := by decide +kernel
set_option maxRecDepth 20000 in
theorem ggX8_ofTrial_X8_sum : GoodIn wsX8_ofTrial wsX8_sum := goodIn_r _ [9] (by decide +kernel) (by decide +kernel)
set_option maxRecDepth 20000 in
theorem gX8_ofTrial_X8_sum : GoodIn wsX8_ofTrial (va_wsS RX8 231 yX8_sum wsX8_sum) := goodIn_app (goodIn_of _ (by decide +kernel)) ggX8_ofTrial_X8_sum
set_option maxRecDepth 20000 in
theorem ggX8_ofTrial_X8_greatest : GoodIn wsX8_ofTrial wsX8_greatest := goodIn_r _ [12, 13, 14, 15, 16] (by decide +kernel) (by decide +kernel)
set_option maxRecDepth 20000 in
theorem gX8_ofTrial_X8_greatest : GoodIn wsX8_ofTrial (va_wsS RX8 235 yX8_greatest wsX8_greatest) := goodIn_app (goodIn_of _ (by decide +kernel)) ggX8_ofTrial_X8_greatest
set_option maxRecDepth 20000 in
theorem ggX8_ofTrial_X8_least : GoodIn wsX8_ofTrial wsX8_least := goodIn_r _ [19, 20, 21, 15, 22] (by decide +kernel) (by decide +kernel)
set_option maxRecDepth 20000 in
theorem gX8_ofTrial_X8_least : GoodIn wsX8_ofTrial (va_wsS RX8 238 yX8_least wsX8_least) := goodIn_app (goodIn_of _ (by decide +kernel)) ggX8_ofTrial_X8_least
set_option maxRecDepth 20000 in
theorem ggX8_ofTrial_X3_has : GoodIn wsX8_ofTrial wsX3_has := goodIn_r _ [27, 28, 42, 43, 44] (by decide +kernel) (by decide +kernel)
set_option maxRecDepth 20000 in
theorem gX8_ofTrial_X3_has : GoodIn wsX8_ofTrial (wsV RX8 159 RX3 yX3_has wsX3_has) := goodIn_app (goodIn_of _ (by decide +kernel)) ggX8_ofTrial_X3_has
theorem dX8_ofTrial_0 : decode cX8_ofTrial 0 = .ok (.aload_n 0, 1) := by decide +kernel
theorem dX8_ofTrial_1 : decode cX8_ofTrial 1 = .ok (.getfield 58, 3) := by decide +kernel
theorem dX8_ofTrial_4 : decode cX8_ofTrial 4 = .ok (.getfield 108, 3) := by decide +kernel
theorem dX8_ofTrial_7 : decode cX8_ofTrial 7 = .ok (.iconst 1, 1) := by decide +kernel
theorem dX8_ofTrial_8 : decode cX8_ofTrial 8 = .ok (.isub, 1) := by decide +kernel
theorem dX8_ofTrial_9 : decode cX8_ofTrial 9 = .ok (.istore_n 2, 1) := by decide +kernel
theorem dX8_ofTrial_10 : decode cX8_ofTrial 10 = .ok (.iload_n 1, 1) := by decide +kernel
theorem dX8_ofTrial_11 : decode cX8_ofTrial 11 = .ok (.tableswitch 85 0 4 #[33, 85, 46, 59, 72], 33) := by decide +kernel
theorem dX8_ofTrial_44 : decode cX8_ofTrial 44 = .ok (.aload_n 0, 1) := by decide +kernel
theorem dX8_ofTrial_45 : decode cX8_ofTrial 45 = .ok (.getfield 58, 3) := by decide +kernel
theorem dX8_ofTrial_48 : decode cX8_ofTrial 48 = .ok (.getfield 114, 3) := by decide +kernel
theorem dX8_ofTrial_51 : decode cX8_ofTrial 51 = .ok (.iconst 0, 1) := by decide +kernel
theorem dX8_ofTrial_52 : decode cX8_ofTrial 52 = .ok (.iload_n 2, 1) := by decide +kernel
theorem dX8_ofTrial_53 : decode cX8_ofTrial 53 = .ok (.invokestatic 231, 3) := by decide +kernel
theorem dX8_ofTrial_56 : decode cX8_ofTrial 56 = .ok (.lreturn, 1) := by decide +kernel
theorem dX8_ofTrial_57 : decode cX8_ofTrial 57 = .ok (.aload_n 0, 1) := by decide +kernel
theorem dX8_ofTrial_58 : decode cX8_ofTrial 58 = .ok (.getfield 58, 3) := by decide +kernel
theorem dX8_ofTrial_61 : decode cX8_ofTrial 61 = .ok (.getfield 114, 3) := by decide +kernel
theorem dX8_ofTrial_64 : decode cX8_ofTrial 64 = .ok (.iconst 0, 1) := by decide +kernel
theorem dX8_ofTrial_65 : decode cX8_ofTrial 65 = .ok (.iload_n 2, 1) := by decide +kernel
theorem dX8_ofTrial_66 : decode cX8_ofTrial 66 = .ok (.invokestatic 235, 3) := by decide +kernel
theorem dX8_ofTrial_69 : decode cX8_ofTrial 69 = .ok (.lreturn, 1) := by decide +kernel
theorem dX8_ofTrial_70 : decode cX8_ofTrial 70 = .ok (.aload_n 0, 1) := by decide +kernel
theorem dX8_ofTrial_71 : decode cX8_ofTrial 71 = .ok (.getfield 58, 3) := by decide +kernel
theorem dX8_ofTrial_74 : decode cX8_ofTrial 74 = .ok (.getfield 114, 3) := by decide +kernel
theorem dX8_ofTrial_77 : decode cX8_ofTrial 77 = .ok (.iconst 0, 1) := by decide +kernel
theorem dX8_ofTrial_78 : decode cX8_ofTrial 78 = .ok (.iload_n 2, 1) := by decide +kernel
theorem dX8_ofTrial_79 : decode cX8_ofTrial 79 = .ok (.invokestatic 238, 3) := by decide +kernel
theorem dX8_ofTrial_82 : decode cX8_ofTrial 82 = .ok (.lreturn, 1) := by decide +kernel
theorem dX8_ofTrial_83 : decode cX8_ofTrial 83 = .ok (.aload_n 0, 1) := by decide +kernel
theorem dX8_ofTrial_84 : decode cX8_ofTrial 84 = .ok (.getfield 58, 3) := by decide +kernel
theorem dX8_ofTrial_87 : decode cX8_ofTrial 87 = .ok (.getfield 163, 3) := by decide +kernel
theorem dX8_ofTrial_90 : decode cX8_ofTrial 90 = .ok (.iconst 0, 1) := by decide +kernel
theorem dX8_ofTrial_91 : decode cX8_ofTrial 91 = .ok (.iload_n 2, 1) := by decide +kernel
theorem dX8_ofTrial_92 : decode cX8_ofTrial 92 = .ok (.invokestatic 235, 3) := by decide +kernel
theorem dX8_ofTrial_95 : decode cX8_ofTrial 95 = .ok (.lreturn, 1) := by decide +kernel
theorem dX8_ofTrial_96 : decode cX8_ofTrial 96 = .ok (.iload_n 1, 1) := by decide +kernel
theorem dX8_ofTrial_97 : decode cX8_ofTrial 97 = .ok (.bipush 10, 2) := by decide +kernel
theorem dX8_ofTrial_99 : decode cX8_ofTrial 99 = .ok (.isub, 1) := by decide +kernel
theorem dX8_ofTrial_100 : decode cX8_ofTrial 100 = .ok (.istore_n 3, 1) := by decide +kernel
theorem dX8_ofTrial_101 : decode cX8_ofTrial 101 = .ok (.aload_n 0, 1) := by decide +kernel
theorem dX8_ofTrial_102 : decode cX8_ofTrial 102 = .ok (.getfield 58, 3) := by decide +kernel
theorem dX8_ofTrial_105 : decode cX8_ofTrial 105 = .ok (.iload_n 3, 1) := by decide +kernel
theorem dX8_ofTrial_106 : decode cX8_ofTrial 106 = .ok (.invokevirtual 159, 3) := by decide +kernel
theorem dX8_ofTrial_109 : decode cX8_ofTrial 109 = .ok (.ifCond .eq 15, 3) := by decide +kernel
theorem dX8_ofTrial_112 : decode cX8_ofTrial 112 = .ok (.aload_n 0, 1) := by decide +kernel
theorem dX8_ofTrial_113 : decode cX8_ofTrial 113 = .ok (.getfield 58, 3) := by decide +kernel
theorem dX8_ofTrial_116 : decode cX8_ofTrial 116 = .ok (.getfield 114, 3) := by decide +kernel
theorem dX8_ofTrial_119 : decode cX8_ofTrial 119 = .ok (.iload_n 3, 1) := by decide +kernel
theorem dX8_ofTrial_120 : decode cX8_ofTrial 120 = .ok (.laload, 1) := by decide +kernel
theorem dX8_ofTrial_121 : decode cX8_ofTrial 121 = .ok (.goto 6, 3) := by decide +kernel
theorem dX8_ofTrial_124 : decode cX8_ofTrial 124 = .ok (.ldc2_w 161, 3) := by decide +kernel
theorem dX8_ofTrial_127 : decode cX8_ofTrial 127 = .ok (.lreturn, 1) := by decide +kernel
set_option maxRecDepth 20000 in
theorem ggX8_ask_X8_refusedRun : GoodIn wsX8_ask wsX8_refusedRun := goodIn_r _ [9, 2, 10, 11, 12, 13, 14, 15, 47, 48, 49, 50, 51, 52, 53, 54, 55, 56, 57, 58, 59, 60, 61, 62] (by decide +kernel) (by decide +kernel)
set_option maxRecDepth 20000 in
theorem gX8_ask_X8_refusedRun : GoodIn wsX8_ask (wsV RX8 174 RX8 yX8_refusedRun wsX8_refusedRun) := goodIn_app (goodIn_of _ (by decide +kernel)) ggX8_ask_X8_refusedRun
set_option maxRecDepth 20000 in
theorem ggX8_ask_X8_sum : GoodIn wsX8_ask wsX8_sum := goodIn_r _ [18] (by decide +kernel) (by decide +kernel)
set_option maxRecDepth 20000 in
theorem gX8_ask_X8_sum : GoodIn wsX8_ask (va_wsS RX8 231 yX8_sum wsX8_sum) := goodIn_app (goodIn_of _ (by decide +kernel)) ggX8_ask_X8_sum
set_option maxRecDepth 20000 in
theorem ggX8_ask_X8_greatest : GoodIn wsX8_ask wsX8_greatest := goodIn_r _ [21, 22, 23, 24, 25] (by decide +kernel) (by decide +kernel)
set_option maxRecDepth 20000 in
theorem gX8_ask_X8_greatest : GoodIn wsX8_ask (va_wsS RX8 235 yX8_greatest wsX8_greatest) := goodIn_app (goodIn_of _ (by decide +kernel)) ggX8_ask_X8_greatest
set_option maxRecDepth 20000 in
theorem ggX8_ask_X8_least : GoodIn wsX8_ask wsX8_least := goodIn_r _ [28, 29, 30, 24, 31] (by decide +kernel) (by decide +kernel)
set_option maxRecDepth 20000 in
theorem gX8_ask_X8_least : GoodIn wsX8_ask (va_wsS RX8 238 yX8_least wsX8_least) := goodIn_app (goodIn_of _ (by decide +kernel)) ggX8_ask_X8_least
set_option maxRecDepth 20000 in
theorem ggX8_ask_X8_howManyGreatest : GoodIn wsX8_ask wsX8_howManyGreatest := goodIn_r _ [34, 19, 20, 8, 21, 22, 23, 24, 25, 35, 36, 37] (by decide +kernel) (by decide +kernel)
set_option maxRecDepth 20000 in
theorem gX8_ask_X8_howManyGreatest : GoodIn wsX8_ask (va_wsS RX8 241 yX8_howManyGreatest wsX8_howManyGreatest) := goodIn_app (goodIn_of _ (by decide +kernel)) ggX8_ask_X8_howManyGreatest
set_option maxRecDepth 20000 in
theorem ggX8_ask_X8_second : GoodIn wsX8_ask wsX8_second := goodIn_r _ [40, 1, 22, 23, 24, 25, 19, 20, 8, 21] (by decide +kernel) (by decide +kernel)
set_option maxRecDepth 20000 in
theorem gX8_ask_X8_second : GoodIn wsX8_ask (va_wsS RX8 245 yX8_second wsX8_second) := goodIn_app (goodIn_of _ (by decide +kernel)) ggX8_ask_X8_second
set_option maxRecDepth 20000 in
theorem ggX8_ask_X8_howManyUnlike : GoodIn wsX8_ask wsX8_howManyUnlike := goodIn_r _ [43, 44, 45, 8, 46] (by decide +kernel) (by decide +kernel)
set_option maxRecDepth 20000 in
theorem gX8_ask_X8_howManyUnlike : GoodIn wsX8_ask (va_wsS RX8 248 yX8_howManyUnlike wsX8_howManyUnlike) := goodIn_app (goodIn_of _ (by decide +kernel)) ggX8_ask_X8_howManyUnlike
theorem dX8_ask_0 : decode cX8_ask 0 = .ok (.aload_n 0, 1) := by decide +kernel
theorem dX8_ask_1 : decode cX8_ask 1 = .ok (.iload_n 1, 1) := by decide +kernel
theorem dX8_ask_2 : decode cX8_ask 2 = .ok (.iload_n 2, 1) := by decide +kernel
theorem dX8_ask_3 : decode cX8_ask 3 = .ok (.invokevirtual 174, 3) := by decide +kernel
theorem dX8_ask_6 : decode cX8_ask 6 = .ok (.ifCond .eq 7, 3) := by decide +kernel
theorem dX8_ask_9 : decode cX8_ask 9 = .ok (.ldc2_w 161, 3) := by decide +kernel
theorem dX8_ask_12 : decode cX8_ask 12 = .ok (.lreturn, 1) := by decide +kernel
theorem dX8_ask_13 : decode cX8_ask 13 = .ok (.iload_n 3, 1) := by decide +kernel
theorem dX8_ask_14 : decode cX8_ask 14 = .ok (.tableswitch 152 0 7 #[46, 59, 72, 85, 99, 112, 126, 139], 46) := by decide +kernel
theorem dX8_ask_60 : decode cX8_ask 60 = .ok (.aload_n 0, 1) := by decide +kernel
theorem dX8_ask_61 : decode cX8_ask 61 = .ok (.getfield 51, 3) := by decide +kernel
theorem dX8_ask_64 : decode cX8_ask 64 = .ok (.getfield 114, 3) := by decide +kernel
theorem dX8_ask_67 : decode cX8_ask 67 = .ok (.iload_n 1, 1) := by decide +kernel
theorem dX8_ask_68 : decode cX8_ask 68 = .ok (.iload_n 2, 1) := by decide +kernel
theorem dX8_ask_69 : decode cX8_ask 69 = .ok (.invokestatic 231, 3) := by decide +kernel
theorem dX8_ask_72 : decode cX8_ask 72 = .ok (.lreturn, 1) := by decide +kernel
theorem dX8_ask_73 : decode cX8_ask 73 = .ok (.aload_n 0, 1) := by decide +kernel
theorem dX8_ask_74 : decode cX8_ask 74 = .ok (.getfield 51, 3) := by decide +kernel
theorem dX8_ask_77 : decode cX8_ask 77 = .ok (.getfield 114, 3) := by decide +kernel
theorem dX8_ask_80 : decode cX8_ask 80 = .ok (.iload_n 1, 1) := by decide +kernel
theorem dX8_ask_81 : decode cX8_ask 81 = .ok (.iload_n 2, 1) := by decide +kernel
theorem dX8_ask_82 : decode cX8_ask 82 = .ok (.invokestatic 235, 3) := by decide +kernel
theorem dX8_ask_85 : decode cX8_ask 85 = .ok (.lreturn, 1) := by decide +kernel
theorem dX8_ask_86 : decode cX8_ask 86 = .ok (.aload_n 0, 1) := by decide +kernel
theorem dX8_ask_87 : decode cX8_ask 87 = .ok (.getfield 51, 3) := by decide +kernel
theorem dX8_ask_90 : decode cX8_ask 90 = .ok (.getfield 114, 3) := by decide +kernel
theorem dX8_ask_93 : decode cX8_ask 93 = .ok (.iload_n 1, 1) := by decide +kernel
theorem dX8_ask_94 : decode cX8_ask 94 = .ok (.iload_n 2, 1) := by decide +kernel
theorem dX8_ask_95 : decode cX8_ask 95 = .ok (.invokestatic 238, 3) := by decide +kernel
theorem dX8_ask_98 : decode cX8_ask 98 = .ok (.lreturn, 1) := by decide +kernel
theorem dX8_ask_99 : decode cX8_ask 99 = .ok (.aload_n 0, 1) := by decide +kernel
theorem dX8_ask_100 : decode cX8_ask 100 = .ok (.getfield 51, 3) := by decide +kernel
theorem dX8_ask_103 : decode cX8_ask 103 = .ok (.getfield 114, 3) := by decide +kernel
theorem dX8_ask_106 : decode cX8_ask 106 = .ok (.iload_n 1, 1) := by decide +kernel
theorem dX8_ask_107 : decode cX8_ask 107 = .ok (.iload_n 2, 1) := by decide +kernel
theorem dX8_ask_108 : decode cX8_ask 108 = .ok (.invokestatic 241, 3) := by decide +kernel
theorem dX8_ask_111 : decode cX8_ask 111 = .ok (.i2l, 1) := by decide +kernel
theorem dX8_ask_112 : decode cX8_ask 112 = .ok (.lreturn, 1) := by decide +kernel
theorem dX8_ask_113 : decode cX8_ask 113 = .ok (.aload_n 0, 1) := by decide +kernel
theorem dX8_ask_114 : decode cX8_ask 114 = .ok (.getfield 51, 3) := by decide +kernel
theorem dX8_ask_117 : decode cX8_ask 117 = .ok (.getfield 114, 3) := by decide +kernel
theorem dX8_ask_120 : decode cX8_ask 120 = .ok (.iload_n 1, 1) := by decide +kernel
theorem dX8_ask_121 : decode cX8_ask 121 = .ok (.iload_n 2, 1) := by decide +kernel
theorem dX8_ask_122 : decode cX8_ask 122 = .ok (.invokestatic 245, 3) := by decide +kernel
theorem dX8_ask_125 : decode cX8_ask 125 = .ok (.lreturn, 1) := by decide +kernel
theorem dX8_ask_126 : decode cX8_ask 126 = .ok (.aload_n 0, 1) := by decide +kernel
theorem dX8_ask_127 : decode cX8_ask 127 = .ok (.getfield 51, 3) := by decide +kernel
theorem dX8_ask_130 : decode cX8_ask 130 = .ok (.getfield 114, 3) := by decide +kernel
theorem dX8_ask_133 : decode cX8_ask 133 = .ok (.iload_n 1, 1) := by decide +kernel
theorem dX8_ask_134 : decode cX8_ask 134 = .ok (.iload_n 2, 1) := by decide +kernel
theorem dX8_ask_135 : decode cX8_ask 135 = .ok (.invokestatic 248, 3) := by decide +kernel
theorem dX8_ask_138 : decode cX8_ask 138 = .ok (.i2l, 1) := by decide +kernel
theorem dX8_ask_139 : decode cX8_ask 139 = .ok (.lreturn, 1) := by decide +kernel
theorem dX8_ask_140 : decode cX8_ask 140 = .ok (.aload_n 0, 1) := by decide +kernel
theorem dX8_ask_141 : decode cX8_ask 141 = .ok (.getfield 51, 3) := by decide +kernel
theorem dX8_ask_144 : decode cX8_ask 144 = .ok (.getfield 163, 3) := by decide +kernel
theorem dX8_ask_147 : decode cX8_ask 147 = .ok (.iload_n 1, 1) := by decide +kernel
theorem dX8_ask_148 : decode cX8_ask 148 = .ok (.iload_n 2, 1) := by decide +kernel
theorem dX8_ask_149 : decode cX8_ask 149 = .ok (.invokestatic 235, 3) := by decide +kernel
theorem dX8_ask_152 : decode cX8_ask 152 = .ok (.lreturn, 1) := by decide +kernel
theorem dX8_ask_153 : decode cX8_ask 153 = .ok (.aload_n 0, 1) := by decide +kernel
theorem dX8_ask_154 : decode cX8_ask 154 = .ok (.getfield 51, 3) := by decide +kernel
theorem dX8_ask_157 : decode cX8_ask 157 = .ok (.getfield 163, 3) := by decide +kernel
theorem dX8_ask_160 : decode cX8_ask 160 = .ok (.iload_n 1, 1) := by decide +kernel
theorem dX8_ask_161 : decode cX8_ask 161 = .ok (.iload_n 2, 1) := by decide +kernel
theorem dX8_ask_162 : decode cX8_ask 162 = .ok (.invokestatic 231, 3) := by decide +kernel
theorem dX8_ask_165 : decode cX8_ask 165 = .ok (.lreturn, 1) := by decide +kernel
theorem dX8_ask_166 : decode cX8_ask 166 = .ok (.ldc2_w 161, 3) := by decide +kernel
theorem dX8_ask_169 : decode cX8_ask 169 = .ok (.lreturn, 1) := by decide +kernel
set_option maxRecDepth 20000 in
theorem ggX8_ofSpan_X6_has : GoodIn wsX8_ofSpan wsX6_has := goodIn_r _ [11, 12, 13, 53, 54] (by decide +kernel) (by decide +kernel)
set_option maxRecDepth 20000 in
theorem gX8_ofSpan_X6_has : GoodIn wsX8_ofSpan (wsV RX8 251 RX6 yX6_has wsX6_has) := goodIn_app (goodIn_of _ (by decide +kernel)) ggX8_ofSpan_X6_has
set_option maxRecDepth 20000 in
theorem ggX8_ofSpan_X8_greatest : GoodIn wsX8_ofSpan wsX8_greatest := goodIn_r _ [17, 18, 19, 20, 21] (by decide +kernel) (by decide +kernel)
set_option maxRecDepth 20000 in
theorem gX8_ofSpan_X8_greatest : GoodIn wsX8_ofSpan (va_wsS RX8 235 yX8_greatest wsX8_greatest) := goodIn_app (goodIn_of _ (by decide +kernel)) ggX8_ofSpan_X8_greatest
set_option maxRecDepth 20000 in
theorem ggX8_ofSpan_X8_second : GoodIn wsX8_ofSpan wsX8_second := goodIn_r _ [24, 2, 18, 19, 20, 21, 14, 15, 16, 17] (by decide +kernel) (by decide +kernel)
set_option maxRecDepth 20000 in
theorem gX8_ofSpan_X8_second : GoodIn wsX8_ofSpan (va_wsS RX8 245 yX8_second wsX8_second) := goodIn_app (goodIn_of _ (by decide +kernel)) ggX8_ofSpan_X8_second
set_option maxRecDepth 20000 in
theorem ggX8_ofSpan_X8_howManyGreatest : GoodIn wsX8_ofSpan wsX8_howManyGreatest := goodIn_r _ [27, 14, 15, 16, 17, 18, 19, 20, 21, 28, 29, 30] (by decide +kernel) (by decide +kernel)
set_option maxRecDepth 20000 in
theorem gX8_ofSpan_X8_howManyGreatest : GoodIn wsX8_ofSpan (va_wsS RX8 241 yX8_howManyGreatest wsX8_howManyGreatest) := goodIn_app (goodIn_of _ (by decide +kernel)) ggX8_ofSpan_X8_howManyGreatest
set_option maxRecDepth 20000 in
theorem ggX8_ofSpan_X8_sum : GoodIn wsX8_ofSpan wsX8_sum := goodIn_r _ [33] (by decide +kernel) (by decide +kernel)
set_option maxRecDepth 20000 in
theorem gX8_ofSpan_X8_sum : GoodIn wsX8_ofSpan (va_wsS RX8 231 yX8_sum wsX8_sum) := goodIn_app (goodIn_of _ (by decide +kernel)) ggX8_ofSpan_X8_sum
set_option maxRecDepth 20000 in
theorem ggX8_ofSpan_X8_howManyUnlike : GoodIn wsX8_ofSpan wsX8_howManyUnlike := goodIn_r _ [36, 37, 38, 16, 39] (by decide +kernel) (by decide +kernel)
set_option maxRecDepth 20000 in
theorem gX8_ofSpan_X8_howManyUnlike : GoodIn wsX8_ofSpan (va_wsS RX8 248 yX8_howManyUnlike wsX8_howManyUnlike) := goodIn_app (goodIn_of _ (by decide +kernel)) ggX8_ofSpan_X8_howManyUnlike
theorem dX8_ofSpan_0 : decode cX8_ofSpan 0 = .ok (.aload_n 0, 1) := by decide +kernel
theorem dX8_ofSpan_1 : decode cX8_ofSpan 1 = .ok (.getfield 64, 3) := by decide +kernel
theorem dX8_ofSpan_4 : decode cX8_ofSpan 4 = .ok (.iload_n 1, 1) := by decide +kernel
theorem dX8_ofSpan_5 : decode cX8_ofSpan 5 = .ok (.invokevirtual 251, 3) := by decide +kernel
theorem dX8_ofSpan_8 : decode cX8_ofSpan 8 = .ok (.ifCond .ne 7, 3) := by decide +kernel
theorem dX8_ofSpan_11 : decode cX8_ofSpan 11 = .ok (.ldc2_w 161, 3) := by decide +kernel
theorem dX8_ofSpan_14 : decode cX8_ofSpan 14 = .ok (.lreturn, 1) := by decide +kernel
theorem dX8_ofSpan_15 : decode cX8_ofSpan 15 = .ok (.aload_n 0, 1) := by decide +kernel
theorem dX8_ofSpan_16 : decode cX8_ofSpan 16 = .ok (.getfield 64, 3) := by decide +kernel
theorem dX8_ofSpan_19 : decode cX8_ofSpan 19 = .ok (.getfield 252, 3) := by decide +kernel
theorem dX8_ofSpan_22 : decode cX8_ofSpan 22 = .ok (.iload_n 1, 1) := by decide +kernel
theorem dX8_ofSpan_23 : decode cX8_ofSpan 23 = .ok (.iaload, 1) := by decide +kernel
theorem dX8_ofSpan_24 : decode cX8_ofSpan 24 = .ok (.istore_n 3, 1) := by decide +kernel
theorem dX8_ofSpan_25 : decode cX8_ofSpan 25 = .ok (.aload_n 0, 1) := by decide +kernel
theorem dX8_ofSpan_26 : decode cX8_ofSpan 26 = .ok (.getfield 64, 3) := by decide +kernel
theorem dX8_ofSpan_29 : decode cX8_ofSpan 29 = .ok (.getfield 255, 3) := by decide +kernel
theorem dX8_ofSpan_32 : decode cX8_ofSpan 32 = .ok (.iload_n 1, 1) := by decide +kernel
theorem dX8_ofSpan_33 : decode cX8_ofSpan 33 = .ok (.iaload, 1) := by decide +kernel
theorem dX8_ofSpan_34 : decode cX8_ofSpan 34 = .ok (.istore 4, 2) := by decide +kernel
theorem dX8_ofSpan_36 : decode cX8_ofSpan 36 = .ok (.iload_n 2, 1) := by decide +kernel
theorem dX8_ofSpan_37 : decode cX8_ofSpan 37 = .ok (.tableswitch 122 0 6 #[43, 46, 50, 64, 78, 93, 107], 43) := by decide +kernel
theorem dX8_ofSpan_80 : decode cX8_ofSpan 80 = .ok (.iload_n 3, 1) := by decide +kernel
theorem dX8_ofSpan_81 : decode cX8_ofSpan 81 = .ok (.i2l, 1) := by decide +kernel
theorem dX8_ofSpan_82 : decode cX8_ofSpan 82 = .ok (.lreturn, 1) := by decide +kernel
theorem dX8_ofSpan_83 : decode cX8_ofSpan 83 = .ok (.iload 4, 2) := by decide +kernel
theorem dX8_ofSpan_85 : decode cX8_ofSpan 85 = .ok (.i2l, 1) := by decide +kernel
theorem dX8_ofSpan_86 : decode cX8_ofSpan 86 = .ok (.lreturn, 1) := by decide +kernel
theorem dX8_ofSpan_87 : decode cX8_ofSpan 87 = .ok (.aload_n 0, 1) := by decide +kernel
theorem dX8_ofSpan_88 : decode cX8_ofSpan 88 = .ok (.getfield 51, 3) := by decide +kernel
theorem dX8_ofSpan_91 : decode cX8_ofSpan 91 = .ok (.getfield 114, 3) := by decide +kernel
theorem dX8_ofSpan_94 : decode cX8_ofSpan 94 = .ok (.iload_n 3, 1) := by decide +kernel
theorem dX8_ofSpan_95 : decode cX8_ofSpan 95 = .ok (.iload 4, 2) := by decide +kernel
theorem dX8_ofSpan_97 : decode cX8_ofSpan 97 = .ok (.invokestatic 235, 3) := by decide +kernel
theorem dX8_ofSpan_100 : decode cX8_ofSpan 100 = .ok (.lreturn, 1) := by decide +kernel
theorem dX8_ofSpan_101 : decode cX8_ofSpan 101 = .ok (.aload_n 0, 1) := by decide +kernel
theorem dX8_ofSpan_102 : decode cX8_ofSpan 102 = .ok (.getfield 51, 3) := by decide +kernel
theorem dX8_ofSpan_105 : decode cX8_ofSpan 105 = .ok (.getfield 114, 3) := by decide +kernel
theorem dX8_ofSpan_108 : decode cX8_ofSpan 108 = .ok (.iload_n 3, 1) := by decide +kernel
theorem dX8_ofSpan_109 : decode cX8_ofSpan 109 = .ok (.iload 4, 2) := by decide +kernel
theorem dX8_ofSpan_111 : decode cX8_ofSpan 111 = .ok (.invokestatic 245, 3) := by decide +kernel
theorem dX8_ofSpan_114 : decode cX8_ofSpan 114 = .ok (.lreturn, 1) := by decide +kernel
theorem dX8_ofSpan_115 : decode cX8_ofSpan 115 = .ok (.aload_n 0, 1) := by decide +kernel
theorem dX8_ofSpan_116 : decode cX8_ofSpan 116 = .ok (.getfield 51, 3) := by decide +kernel
theorem dX8_ofSpan_119 : decode cX8_ofSpan 119 = .ok (.getfield 114, 3) := by decide +kernel
theorem dX8_ofSpan_122 : decode cX8_ofSpan 122 = .ok (.iload_n 3, 1) := by decide +kernel
theorem dX8_ofSpan_123 : decode cX8_ofSpan 123 = .ok (.iload 4, 2) := by decide +kernel
theorem dX8_ofSpan_125 : decode cX8_ofSpan 125 = .ok (.invokestatic 241, 3) := by decide +kernel
theorem dX8_ofSpan_128 : decode cX8_ofSpan 128 = .ok (.i2l, 1) := by decide +kernel
theorem dX8_ofSpan_129 : decode cX8_ofSpan 129 = .ok (.lreturn, 1) := by decide +kernel
theorem dX8_ofSpan_130 : decode cX8_ofSpan 130 = .ok (.aload_n 0, 1) := by decide +kernel
theorem dX8_ofSpan_131 : decode cX8_ofSpan 131 = .ok (.getfield 51, 3) := by decide +kernel
theorem dX8_ofSpan_134 : decode cX8_ofSpan 134 = .ok (.getfield 114, 3) := by decide +kernel
theorem dX8_ofSpan_137 : decode cX8_ofSpan 137 = .ok (.iload_n 3, 1) := by decide +kernel
theorem dX8_ofSpan_138 : decode cX8_ofSpan 138 = .ok (.iload 4, 2) := by decide +kernel
theorem dX8_ofSpan_140 : decode cX8_ofSpan 140 = .ok (.invokestatic 231, 3) := by decide +kernel
theorem dX8_ofSpan_143 : decode cX8_ofSpan 143 = .ok (.lreturn, 1) := by decide +kernel
theorem dX8_ofSpan_144 : decode cX8_ofSpan 144 = .ok (.aload_n 0, 1) := by decide +kernel
theorem dX8_ofSpan_145 : decode cX8_ofSpan 145 = .ok (.getfield 51, 3) := by decide +kernel
theorem dX8_ofSpan_148 : decode cX8_ofSpan 148 = .ok (.getfield 114, 3) := by decide +kernel
theorem dX8_ofSpan_151 : decode cX8_ofSpan 151 = .ok (.iload_n 3, 1) := by decide +kernel
theorem dX8_ofSpan_152 : decode cX8_ofSpan 152 = .ok (.iload 4, 2) := by decide +kernel
theorem dX8_ofSpan_154 : decode cX8_ofSpan 154 = .ok (.invokestatic 248, 3) := by decide +kernel
theorem dX8_ofSpan_157 : decode cX8_ofSpan 157 = .ok (.i2l, 1) := by decide +kernel
theorem dX8_ofSpan_158 : decode cX8_ofSpan 158 = .ok (.lreturn, 1) := by decide +kernel
theorem dX8_ofSpan_159 : decode cX8_ofSpan 159 = .ok (.ldc2_w 161, 3) := by decide +kernel
theorem dX8_ofSpan_162 : decode cX8_ofSpan 162 = .ok (.lreturn, 1) := by decide +kernel
set_option maxRecDepth 20000 in
theorem ggX8_looks_X8_refusedAim : GoodIn wsX8_looks wsX8_refusedAim := goodIn_r _ [7, 8, 9, 10, 11, 12, 6, 13, 14, 15, 16, 17, 18, 19, 20, 53, 54, 55, 56, 57, 58, 59, 60, 61, 62, 63, 64, 65, 66, 67, 68] (by decide +kernel) (by decide +kernel)
set_option maxRecDepth 20000 in
theorem gX8_looks_X8_refusedAim : GoodIn wsX8_looks (wsV RX8 166 RX8 yX8_refusedAim wsX8_refusedAim) := goodIn_app (goodIn_of _ (by decide +kernel)) ggX8_looks_X8_refusedAim
set_option maxRecDepth 20000 in
theorem ggX8_looks_X6_has : GoodIn wsX8_looks wsX6_has := goodIn_r _ [25, 26, 27, 69, 70] (by decide +kernel) (by decide +kernel)
set_option maxRecDepth 20000 in
theorem gX8_looks_X6_has : GoodIn wsX8_looks (wsV RX8 251 RX6 yX6_has wsX6_has) := goodIn_app (goodIn_of _ (by decide +kernel)) ggX8_looks_X6_has
set_option maxRecDepth 20000 in
theorem ggX8_looks_X8_mustOpen : GoodIn wsX8_looks wsX8_mustOpen := goodIn_r _ [31, 2, 32, 33, 14, 34, 35, 36, 37, 6, 38, 39, 40, 41, 42, 43, 44, 45, 53, 54, 55, 56, 57, 58, 59, 60, 61, 62, 63, 64, 65, 69, 70, 66, 67, 68] (by decide +kernel) (by decide +kernel)
set_option maxRecDepth 20000 in
theorem gX8_looks_X8_mustOpen : GoodIn wsX8_looks (wsV RX8 260 RX8 yX8_mustOpen wsX8_mustOpen) := goodIn_app (goodIn_of _ (by decide +kernel)) ggX8_looks_X8_mustOpen
set_option maxRecDepth 20000 in
theorem ggX8_looks_J13_bitCount_95d88 : GoodIn wsX8_looks wsJ13_bitCount_95d88 := goodIn_r _ [49, 50, 51, 52] (by decide +kernel) (by decide +kernel)
set_option maxRecDepth 20000 in
theorem gX8_looks_J13_bitCount_95d88 : GoodIn wsX8_looks (va_wsS RX8 264 yJ13_bitCount_95d88 wsJ13_bitCount_95d88) := goodIn_app (goodIn_of _ (by decide +kernel)) ggX8_looks_J13_bitCount_95d88
theorem dX8_looks_0 : decode cX8_looks 0 = .ok (.aload_n 0, 1) := by decide +kernel
theorem dX8_looks_1 : decode cX8_looks 1 = .ok (.iload_n 1, 1) := by decide +kernel
theorem dX8_looks_2 : decode cX8_looks 2 = .ok (.iload_n 2, 1) := by decide +kernel
theorem dX8_looks_3 : decode cX8_looks 3 = .ok (.lload_n 3, 1) := by decide +kernel
theorem dX8_looks_4 : decode cX8_looks 4 = .ok (.invokevirtual 166, 3) := by decide +kernel
theorem dX8_looks_7 : decode cX8_looks 7 = .ok (.istore 5, 2) := by decide +kernel
theorem dX8_looks_9 : decode cX8_looks 9 = .ok (.iload 5, 2) := by decide +kernel
theorem dX8_looks_11 : decode cX8_looks 11 = .ok (.ifCond .eq 6, 3) := by decide +kernel
theorem dX8_looks_14 : decode cX8_looks 14 = .ok (.iload 5, 2) := by decide +kernel
theorem dX8_looks_16 : decode cX8_looks 16 = .ok (.ireturn, 1) := by decide +kernel
theorem dX8_looks_17 : decode cX8_looks 17 = .ok (.ldc2_w 258, 3) := by decide +kernel
theorem dX8_looks_20 : decode cX8_looks 20 = .ok (.lstore 6, 2) := by decide +kernel
theorem dX8_looks_22 : decode cX8_looks 22 = .ok (.iconst 2, 1) := by decide +kernel
theorem dX8_looks_23 : decode cX8_looks 23 = .ok (.istore 8, 2) := by decide +kernel
theorem dX8_looks_25 : decode cX8_looks 25 = .ok (.iload 8, 2) := by decide +kernel
theorem dX8_looks_27 : decode cX8_looks 27 = .ok (.bipush 32, 2) := by decide +kernel
theorem dX8_looks_29 : decode cX8_looks 29 = .ok (.if_icmp .ge 60, 3) := by decide +kernel
theorem dX8_looks_32 : decode cX8_looks 32 = .ok (.iload 8, 2) := by decide +kernel
theorem dX8_looks_34 : decode cX8_looks 34 = .ok (.iconst 2, 1) := by decide +kernel
theorem dX8_looks_35 : decode cX8_looks 35 = .ok (.idiv, 1) := by decide +kernel
theorem dX8_looks_36 : decode cX8_looks 36 = .ok (.istore 9, 2) := by decide +kernel
theorem dX8_looks_38 : decode cX8_looks 38 = .ok (.aload_n 0, 1) := by decide +kernel
theorem dX8_looks_39 : decode cX8_looks 39 = .ok (.getfield 64, 3) := by decide +kernel
theorem dX8_looks_42 : decode cX8_looks 42 = .ok (.iload 8, 2) := by decide +kernel
theorem dX8_looks_44 : decode cX8_looks 44 = .ok (.invokevirtual 251, 3) := by decide +kernel
theorem dX8_looks_47 : decode cX8_looks 47 = .ok (.ifCond .eq 36, 3) := by decide +kernel
theorem dX8_looks_50 : decode cX8_looks 50 = .ok (.lload 6, 2) := by decide +kernel
theorem dX8_looks_52 : decode cX8_looks 52 = .ok (.iload 9, 2) := by decide +kernel
theorem dX8_looks_54 : decode cX8_looks 54 = .ok (.lshr, 1) := by decide +kernel
theorem dX8_looks_55 : decode cX8_looks 55 = .ok (.lconst 1, 1) := by decide +kernel
theorem dX8_looks_56 : decode cX8_looks 56 = .ok (.land, 1) := by decide +kernel
theorem dX8_looks_57 : decode cX8_looks 57 = .ok (.lconst 0, 1) := by decide +kernel
theorem dX8_looks_58 : decode cX8_looks 58 = .ok (.lcmp, 1) := by decide +kernel
theorem dX8_looks_59 : decode cX8_looks 59 = .ok (.ifCond .eq 24, 3) := by decide +kernel
theorem dX8_looks_62 : decode cX8_looks 62 = .ok (.aload_n 0, 1) := by decide +kernel
theorem dX8_looks_63 : decode cX8_looks 63 = .ok (.iload 9, 2) := by decide +kernel
theorem dX8_looks_65 : decode cX8_looks 65 = .ok (.iload_n 1, 1) := by decide +kernel
theorem dX8_looks_66 : decode cX8_looks 66 = .ok (.iload_n 2, 1) := by decide +kernel
theorem dX8_looks_67 : decode cX8_looks 67 = .ok (.lload_n 3, 1) := by decide +kernel
theorem dX8_looks_68 : decode cX8_looks 68 = .ok (.invokevirtual 260, 3) := by decide +kernel
theorem dX8_looks_71 : decode cX8_looks 71 = .ok (.ifCond .eq 12, 3) := by decide +kernel
theorem dX8_looks_74 : decode cX8_looks 74 = .ok (.lload 6, 2) := by decide +kernel
theorem dX8_looks_76 : decode cX8_looks 76 = .ok (.lconst 1, 1) := by decide +kernel
theorem dX8_looks_77 : decode cX8_looks 77 = .ok (.iload 8, 2) := by decide +kernel
theorem dX8_looks_79 : decode cX8_looks 79 = .ok (.lshl, 1) := by decide +kernel
theorem dX8_looks_80 : decode cX8_looks 80 = .ok (.lor, 1) := by decide +kernel
theorem dX8_looks_81 : decode cX8_looks 81 = .ok (.lstore 6, 2) := by decide +kernel
theorem dX8_looks_83 : decode cX8_looks 83 = .ok (.iinc 8 1, 3) := by decide +kernel
theorem dX8_looks_86 : decode cX8_looks 86 = .ok (.goto (-61), 3) := by decide +kernel
theorem dX8_looks_89 : decode cX8_looks 89 = .ok (.lload 6, 2) := by decide +kernel
theorem dX8_looks_91 : decode cX8_looks 91 = .ok (.invokestatic 264, 3) := by decide +kernel
theorem dX8_looks_94 : decode cX8_looks 94 = .ok (.ireturn, 1) := by decide +kernel
set_option maxRecDepth 20000 in
theorem ggX8_unlike_X3_areThere : GoodIn wsX8_unlike wsX3_areThere := goodIn_r _ [10, 11, 39, 40, 41] (by decide +kernel) (by decide +kernel)
set_option maxRecDepth 20000 in
theorem gX8_unlike_X3_areThere : GoodIn wsX8_unlike (wsV RX8 178 RX3 yX3_areThere wsX3_areThere) := goodIn_app (goodIn_of _ (by decide +kernel)) ggX8_unlike_X3_areThere
set_option maxRecDepth 20000 in
theorem ggX8_unlike_X6_has : GoodIn wsX8_unlike wsX6_has := goodIn_r _ [16, 17, 18, 42, 43] (by decide +kernel) (by decide +kernel)
set_option maxRecDepth 20000 in
theorem gX8_unlike_X6_has : GoodIn wsX8_unlike (wsV RX8 251 RX6 yX6_has wsX6_has) := goodIn_app (goodIn_of _ (by decide +kernel)) ggX8_unlike_X6_has
set_option maxRecDepth 20000 in
theorem ggX8_unlike_X8_howManyUnlike : GoodIn wsX8_unlike wsX8_howManyUnlike := goodIn_r _ [22, 23, 24, 21, 25] (by decide +kernel) (by decide +kernel)
set_option maxRecDepth 20000 in
theorem gX8_unlike_X8_howManyUnlike : GoodIn wsX8_unlike (va_wsS RX8 248 yX8_howManyUnlike wsX8_howManyUnlike) := goodIn_app (goodIn_of _ (by decide +kernel)) ggX8_unlike_X8_howManyUnlike
theorem dX8_unlike_0 : decode cX8_unlike 0 = .ok (.aload_n 0, 1) := by decide +kernel
theorem dX8_unlike_1 : decode cX8_unlike 1 = .ok (.getfield 51, 3) := by decide +kernel
theorem dX8_unlike_4 : decode cX8_unlike 4 = .ok (.invokevirtual 178, 3) := by decide +kernel
theorem dX8_unlike_7 : decode cX8_unlike 7 = .ok (.ifCond .ne 6, 3) := by decide +kernel
theorem dX8_unlike_10 : decode cX8_unlike 10 = .ok (.bipush (-3), 2) := by decide +kernel
theorem dX8_unlike_12 : decode cX8_unlike 12 = .ok (.ireturn, 1) := by decide +kernel
theorem dX8_unlike_13 : decode cX8_unlike 13 = .ok (.iconst 0, 1) := by decide +kernel
theorem dX8_unlike_14 : decode cX8_unlike 14 = .ok (.istore_n 1, 1) := by decide +kernel
theorem dX8_unlike_15 : decode cX8_unlike 15 = .ok (.iconst 1, 1) := by decide +kernel
theorem dX8_unlike_16 : decode cX8_unlike 16 = .ok (.istore_n 2, 1) := by decide +kernel
theorem dX8_unlike_17 : decode cX8_unlike 17 = .ok (.iload_n 2, 1) := by decide +kernel
theorem dX8_unlike_18 : decode cX8_unlike 18 = .ok (.bipush 32, 2) := by decide +kernel
theorem dX8_unlike_20 : decode cX8_unlike 20 = .ok (.if_icmp .ge 51, 3) := by decide +kernel
theorem dX8_unlike_23 : decode cX8_unlike 23 = .ok (.aload_n 0, 1) := by decide +kernel
theorem dX8_unlike_24 : decode cX8_unlike 24 = .ok (.getfield 64, 3) := by decide +kernel
theorem dX8_unlike_27 : decode cX8_unlike 27 = .ok (.iload_n 2, 1) := by decide +kernel
theorem dX8_unlike_28 : decode cX8_unlike 28 = .ok (.invokevirtual 251, 3) := by decide +kernel
theorem dX8_unlike_31 : decode cX8_unlike 31 = .ok (.ifCond .eq 34, 3) := by decide +kernel
theorem dX8_unlike_34 : decode cX8_unlike 34 = .ok (.iload_n 1, 1) := by decide +kernel
theorem dX8_unlike_35 : decode cX8_unlike 35 = .ok (.aload_n 0, 1) := by decide +kernel
theorem dX8_unlike_36 : decode cX8_unlike 36 = .ok (.getfield 51, 3) := by decide +kernel
theorem dX8_unlike_39 : decode cX8_unlike 39 = .ok (.getfield 114, 3) := by decide +kernel
theorem dX8_unlike_42 : decode cX8_unlike 42 = .ok (.aload_n 0, 1) := by decide +kernel
theorem dX8_unlike_43 : decode cX8_unlike 43 = .ok (.getfield 64, 3) := by decide +kernel
theorem dX8_unlike_46 : decode cX8_unlike 46 = .ok (.getfield 252, 3) := by decide +kernel
theorem dX8_unlike_49 : decode cX8_unlike 49 = .ok (.iload_n 2, 1) := by decide +kernel
theorem dX8_unlike_50 : decode cX8_unlike 50 = .ok (.iaload, 1) := by decide +kernel
theorem dX8_unlike_51 : decode cX8_unlike 51 = .ok (.aload_n 0, 1) := by decide +kernel
theorem dX8_unlike_52 : decode cX8_unlike 52 = .ok (.getfield 64, 3) := by decide +kernel
theorem dX8_unlike_55 : decode cX8_unlike 55 = .ok (.getfield 255, 3) := by decide +kernel
theorem dX8_unlike_58 : decode cX8_unlike 58 = .ok (.iload_n 2, 1) := by decide +kernel
theorem dX8_unlike_59 : decode cX8_unlike 59 = .ok (.iaload, 1) := by decide +kernel
theorem dX8_unlike_60 : decode cX8_unlike 60 = .ok (.invokestatic 248, 3) := by decide +kernel
theorem dX8_unlike_63 : decode cX8_unlike 63 = .ok (.iadd, 1) := by decide +kernel
theorem dX8_unlike_64 : decode cX8_unlike 64 = .ok (.istore_n 1, 1) := by decide +kernel
theorem dX8_unlike_65 : decode cX8_unlike 65 = .ok (.iinc 2 1, 3) := by decide +kernel
theorem dX8_unlike_68 : decode cX8_unlike 68 = .ok (.goto (-51), 3) := by decide +kernel
theorem dX8_unlike_71 : decode cX8_unlike 71 = .ok (.iload_n 1, 1) := by decide +kernel
theorem dX8_unlike_72 : decode cX8_unlike 72 = .ok (.ireturn, 1) := by decide +kernel
set_option maxRecDepth 20000 in
theorem ggX8_mustOpen_X8_greatest : GoodIn wsX8_mustOpen wsX8_greatest := goodIn_r _ [10, 11, 12, 13, 14] (by decide +kernel) (by decide +kernel)
set_option maxRecDepth 20000 in
theorem gX8_mustOpen_X8_greatest : GoodIn wsX8_mustOpen (va_wsS RX8 235 yX8_greatest wsX8_greatest) := goodIn_app (goodIn_of _ (by decide +kernel)) ggX8_mustOpen_X8_greatest
set_option maxRecDepth 20000 in
theorem ggX8_mustOpen_X8_second : GoodIn wsX8_mustOpen wsX8_second := goodIn_r _ [17, 6, 11, 12, 13, 14, 7, 8, 9, 10] (by decide +kernel) (by decide +kernel)
set_option maxRecDepth 20000 in
theorem gX8_mustOpen_X8_second : GoodIn wsX8_mustOpen (va_wsS RX8 245 yX8_second wsX8_second) := goodIn_app (goodIn_of _ (by decide +kernel)) ggX8_mustOpen_X8_second
theorem dX8_mustOpen_0 : decode cX8_mustOpen 0 = .ok (.aload_n 0, 1) := by decide +kernel
theorem dX8_mustOpen_1 : decode cX8_mustOpen 1 = .ok (.getfield 64, 3) := by decide +kernel
theorem dX8_mustOpen_4 : decode cX8_mustOpen 4 = .ok (.getfield 252, 3) := by decide +kernel
theorem dX8_mustOpen_7 : decode cX8_mustOpen 7 = .ok (.iload_n 1, 1) := by decide +kernel
theorem dX8_mustOpen_8 : decode cX8_mustOpen 8 = .ok (.iaload, 1) := by decide +kernel
theorem dX8_mustOpen_9 : decode cX8_mustOpen 9 = .ok (.istore 6, 2) := by decide +kernel
theorem dX8_mustOpen_11 : decode cX8_mustOpen 11 = .ok (.aload_n 0, 1) := by decide +kernel
theorem dX8_mustOpen_12 : decode cX8_mustOpen 12 = .ok (.getfield 64, 3) := by decide +kernel
theorem dX8_mustOpen_15 : decode cX8_mustOpen 15 = .ok (.getfield 255, 3) := by decide +kernel
theorem dX8_mustOpen_18 : decode cX8_mustOpen 18 = .ok (.iload_n 1, 1) := by decide +kernel
theorem dX8_mustOpen_19 : decode cX8_mustOpen 19 = .ok (.iaload, 1) := by decide +kernel
theorem dX8_mustOpen_20 : decode cX8_mustOpen 20 = .ok (.istore 7, 2) := by decide +kernel
theorem dX8_mustOpen_22 : decode cX8_mustOpen 22 = .ok (.iload 7, 2) := by decide +kernel
theorem dX8_mustOpen_24 : decode cX8_mustOpen 24 = .ok (.iload_n 2, 1) := by decide +kernel
theorem dX8_mustOpen_25 : decode cX8_mustOpen 25 = .ok (.if_icmp .lt 29, 3) := by decide +kernel
theorem dX8_mustOpen_28 : decode cX8_mustOpen 28 = .ok (.iload 6, 2) := by decide +kernel
theorem dX8_mustOpen_30 : decode cX8_mustOpen 30 = .ok (.iload_n 3, 1) := by decide +kernel
theorem dX8_mustOpen_31 : decode cX8_mustOpen 31 = .ok (.if_icmp .gt 23, 3) := by decide +kernel
theorem dX8_mustOpen_34 : decode cX8_mustOpen 34 = .ok (.aload_n 0, 1) := by decide +kernel
theorem dX8_mustOpen_35 : decode cX8_mustOpen 35 = .ok (.getfield 51, 3) := by decide +kernel
theorem dX8_mustOpen_38 : decode cX8_mustOpen 38 = .ok (.getfield 114, 3) := by decide +kernel
theorem dX8_mustOpen_41 : decode cX8_mustOpen 41 = .ok (.iload 6, 2) := by decide +kernel
theorem dX8_mustOpen_43 : decode cX8_mustOpen 43 = .ok (.iload 7, 2) := by decide +kernel
theorem dX8_mustOpen_45 : decode cX8_mustOpen 45 = .ok (.invokestatic 235, 3) := by decide +kernel
theorem dX8_mustOpen_48 : decode cX8_mustOpen 48 = .ok (.lload 4, 2) := by decide +kernel
theorem dX8_mustOpen_50 : decode cX8_mustOpen 50 = .ok (.lcmp, 1) := by decide +kernel
theorem dX8_mustOpen_51 : decode cX8_mustOpen 51 = .ok (.ifCond .gt 5, 3) := by decide +kernel
theorem dX8_mustOpen_54 : decode cX8_mustOpen 54 = .ok (.iconst 0, 1) := by decide +kernel
theorem dX8_mustOpen_55 : decode cX8_mustOpen 55 = .ok (.ireturn, 1) := by decide +kernel
theorem dX8_mustOpen_56 : decode cX8_mustOpen 56 = .ok (.iload 6, 2) := by decide +kernel
theorem dX8_mustOpen_58 : decode cX8_mustOpen 58 = .ok (.iload_n 2, 1) := by decide +kernel
theorem dX8_mustOpen_59 : decode cX8_mustOpen 59 = .ok (.if_icmp .lt 9, 3) := by decide +kernel
theorem dX8_mustOpen_62 : decode cX8_mustOpen 62 = .ok (.iload 7, 2) := by decide +kernel
theorem dX8_mustOpen_64 : decode cX8_mustOpen 64 = .ok (.iload_n 3, 1) := by decide +kernel
theorem dX8_mustOpen_65 : decode cX8_mustOpen 65 = .ok (.if_icmp .le 5, 3) := by decide +kernel
theorem dX8_mustOpen_68 : decode cX8_mustOpen 68 = .ok (.iconst 1, 1) := by decide +kernel
theorem dX8_mustOpen_69 : decode cX8_mustOpen 69 = .ok (.ireturn, 1) := by decide +kernel
theorem dX8_mustOpen_70 : decode cX8_mustOpen 70 = .ok (.aload_n 0, 1) := by decide +kernel
theorem dX8_mustOpen_71 : decode cX8_mustOpen 71 = .ok (.getfield 51, 3) := by decide +kernel
theorem dX8_mustOpen_74 : decode cX8_mustOpen 74 = .ok (.getfield 114, 3) := by decide +kernel
theorem dX8_mustOpen_77 : decode cX8_mustOpen 77 = .ok (.iload 6, 2) := by decide +kernel
theorem dX8_mustOpen_79 : decode cX8_mustOpen 79 = .ok (.iload 7, 2) := by decide +kernel
theorem dX8_mustOpen_81 : decode cX8_mustOpen 81 = .ok (.invokestatic 245, 3) := by decide +kernel
theorem dX8_mustOpen_84 : decode cX8_mustOpen 84 = .ok (.lstore 8, 2) := by decide +kernel
theorem dX8_mustOpen_86 : decode cX8_mustOpen 86 = .ok (.lload 8, 2) := by decide +kernel
theorem dX8_mustOpen_88 : decode cX8_mustOpen 88 = .ok (.ldc2_w 161, 3) := by decide +kernel
theorem dX8_mustOpen_91 : decode cX8_mustOpen 91 = .ok (.lcmp, 1) := by decide +kernel
theorem dX8_mustOpen_92 : decode cX8_mustOpen 92 = .ok (.ifCond .eq 15, 3) := by decide +kernel
theorem dX8_mustOpen_95 : decode cX8_mustOpen 95 = .ok (.lload 8, 2) := by decide +kernel
theorem dX8_mustOpen_97 : decode cX8_mustOpen 97 = .ok (.lload 4, 2) := by decide +kernel
theorem dX8_mustOpen_99 : decode cX8_mustOpen 99 = .ok (.lcmp, 1) := by decide +kernel
theorem dX8_mustOpen_100 : decode cX8_mustOpen 100 = .ok (.ifCond .lt 7, 3) := by decide +kernel
theorem dX8_mustOpen_103 : decode cX8_mustOpen 103 = .ok (.iconst 1, 1) := by decide +kernel
theorem dX8_mustOpen_104 : decode cX8_mustOpen 104 = .ok (.goto 4, 3) := by decide +kernel
theorem dX8_mustOpen_107 : decode cX8_mustOpen 107 = .ok (.iconst 0, 1) := by decide +kernel
theorem dX8_mustOpen_108 : decode cX8_mustOpen 108 = .ok (.ireturn, 1) := by decide +kernel
set_option maxRecDepth 20000 in
theorem ggX8_reading_X3_has : GoodIn wsX8_reading wsX3_has := goodIn_r _ [9, 10, 32, 33, 34] (by decide +kernel) (by decide +kernel)
set_option maxRecDepth 20000 in
theorem gX8_reading_X3_has : GoodIn wsX8_reading (wsV RX8 159 RX3 yX3_has wsX3_has) := goodIn_app (goodIn_of _ (by decide +kernel)) ggX8_reading_X3_has
set_option maxRecDepth 20000 in
theorem ggX8_reading_X4_keep : GoodIn wsX8_reading wsX4_keep := goodIn_r _ [15, 16, 17, 18, 35, 36, 37] (by decide +kernel) (by decide +kernel)
set_option maxRecDepth 20000 in
theorem gX8_reading_X4_keep : GoodIn wsX8_reading (wsV RX8 271 RX4 yX4_keep wsX4_keep) := goodIn_app (goodIn_of _ (by decide +kernel)) ggX8_reading_X4_keep
theorem dX8_reading_0 : decode cX8_reading 0 = .ok (.aload_n 0, 1) := by decide +kernel
theorem dX8_reading_1 : decode cX8_reading 1 = .ok (.getfield 51, 3) := by decide +kernel
theorem dX8_reading_4 : decode cX8_reading 4 = .ok (.iload_n 1, 1) := by decide +kernel
theorem dX8_reading_5 : decode cX8_reading 5 = .ok (.invokevirtual 159, 3) := by decide +kernel
theorem dX8_reading_8 : decode cX8_reading 8 = .ok (.ifCond .ne 5, 3) := by decide +kernel
theorem dX8_reading_11 : decode cX8_reading 11 = .ok (.iconst (-1), 1) := by decide +kernel
theorem dX8_reading_12 : decode cX8_reading 12 = .ok (.ireturn, 1) := by decide +kernel
theorem dX8_reading_13 : decode cX8_reading 13 = .ok (.lload_n 2, 1) := by decide +kernel
theorem dX8_reading_14 : decode cX8_reading 14 = .ok (.ldc2_w 267, 3) := by decide +kernel
theorem dX8_reading_17 : decode cX8_reading 17 = .ok (.lcmp, 1) := by decide +kernel
theorem dX8_reading_18 : decode cX8_reading 18 = .ok (.ifCond .lt 11, 3) := by decide +kernel
theorem dX8_reading_21 : decode cX8_reading 21 = .ok (.lload_n 2, 1) := by decide +kernel
theorem dX8_reading_22 : decode cX8_reading 22 = .ok (.ldc2_w 269, 3) := by decide +kernel
theorem dX8_reading_25 : decode cX8_reading 25 = .ok (.lcmp, 1) := by decide +kernel
theorem dX8_reading_26 : decode cX8_reading 26 = .ok (.ifCond .le 6, 3) := by decide +kernel
theorem dX8_reading_29 : decode cX8_reading 29 = .ok (.bipush (-2), 2) := by decide +kernel
theorem dX8_reading_31 : decode cX8_reading 31 = .ok (.ireturn, 1) := by decide +kernel
theorem dX8_reading_32 : decode cX8_reading 32 = .ok (.aload_n 0, 1) := by decide +kernel
theorem dX8_reading_33 : decode cX8_reading 33 = .ok (.getfield 71, 3) := by decide +kernel
theorem dX8_reading_36 : decode cX8_reading 36 = .ok (.iload_n 1, 1) := by decide +kernel
theorem dX8_reading_37 : decode cX8_reading 37 = .ok (.lload_n 2, 1) := by decide +kernel
theorem dX8_reading_38 : decode cX8_reading 38 = .ok (.invokevirtual 271, 3) := by decide +kernel
theorem dX8_reading_41 : decode cX8_reading 41 = .ok (.ireturn, 1) := by decide +kernel
theorem dX8_back_0 : decode cX8_back 0 = .ok (.iload_n 1, 1) := by decide +kernel
theorem dX8_back_1 : decode cX8_back 1 = .ok (.ifCond .lt 14, 3) := by decide +kernel
theorem dX8_back_4 : decode cX8_back 4 = .ok (.iload_n 1, 1) := by decide +kernel
theorem dX8_back_5 : decode cX8_back 5 = .ok (.aload_n 0, 1) := by decide +kernel
theorem dX8_back_6 : decode cX8_back 6 = .ok (.getfield 71, 3) := by decide +kernel
theorem dX8_back_9 : decode cX8_back 9 = .ok (.getfield 131, 3) := by decide +kernel
theorem dX8_back_12 : decode cX8_back 12 = .ok (.if_icmp .le 6, 3) := by decide +kernel
theorem dX8_back_15 : decode cX8_back 15 = .ok (.bipush (-2), 2) := by decide +kernel
theorem dX8_back_17 : decode cX8_back 17 = .ok (.ireturn, 1) := by decide +kernel
theorem dX8_back_18 : decode cX8_back 18 = .ok (.aload_n 0, 1) := by decide +kernel
theorem dX8_back_19 : decode cX8_back 19 = .ok (.getfield 71, 3) := by decide +kernel
theorem dX8_back_22 : decode cX8_back 22 = .ok (.dup, 1) := by decide +kernel
theorem dX8_back_23 : decode cX8_back 23 = .ok (.getfield 131, 3) := by decide +kernel
theorem dX8_back_26 : decode cX8_back 26 = .ok (.iload_n 1, 1) := by decide +kernel
theorem dX8_back_27 : decode cX8_back 27 = .ok (.isub, 1) := by decide +kernel
theorem dX8_back_28 : decode cX8_back 28 = .ok (.putfield 131, 3) := by decide +kernel
theorem dX8_back_31 : decode cX8_back 31 = .ok (.aload_n 0, 1) := by decide +kernel
theorem dX8_back_32 : decode cX8_back 32 = .ok (.getfield 71, 3) := by decide +kernel
theorem dX8_back_35 : decode cX8_back 35 = .ok (.getfield 131, 3) := by decide +kernel
theorem dX8_back_38 : decode cX8_back 38 = .ok (.ireturn, 1) := by decide +kernel
set_option maxRecDepth 20000 in
theorem ggX8_kinds_X1_has : GoodIn wsX8_kinds wsX1_has := goodIn_r _ [7, 8, 101, 102, 103] (by decide +kernel) (by decide +kernel)
set_option maxRecDepth 20000 in
theorem gX8_kinds_X1_has : GoodIn wsX8_kinds (wsV RX8 142 RX1 yX1_has wsX1_has) := goodIn_app (goodIn_of _ (by decide +kernel)) ggX8_kinds_X1_has
set_option maxRecDepth 20000 in
theorem ggX8_kinds_X8_fits : GoodIn wsX8_kinds wsX8_fits := goodIn_r _ [13, 14, 1, 15, 2, 16, 17, 18, 19, 20, 21, 22, 23, 24, 6, 25, 8, 26, 27, 28, 29, 30, 31, 32, 33, 34, 35, 36, 37, 38, 39, 40, 41, 42, 43, 44, 45, 46, 47, 48, 49, 50, 51, 52, 53, 54, 55, 56, 57, 58, 59, 60, 61, 62, 63, 64, 65, 66, 67, 68, 69, 70, 71, 4, 5, 7, 72, 73, 74, 75, 76, 77, 78, 79, 80, 81, 82, 83, 84, 85, 86, 87, 88, 89, 90, 91, 92, 93, 94, 95, 96, 97, 98, 99, 100, 101, 102, 103, 104, 105, 106, 107, 108, 109, 110, 111, 112, 113, 114, 115] (by decide +kernel) (by decide +kernel)
set_option maxRecDepth 20000 in
theorem gX8_kinds_X8_fits : GoodIn wsX8_kinds (wsV RX8 275 RX8 yX8_fits wsX8_fits) := goodIn_app (goodIn_of _ (by decide +kernel)) ggX8_kinds_X8_fits
theorem dX8_kinds_0 : decode cX8_kinds 0 = .ok (.aload_n 0, 1) := by decide +kernel
theorem dX8_kinds_1 : decode cX8_kinds 1 = .ok (.getfield 27, 3) := by decide +kernel
theorem dX8_kinds_4 : decode cX8_kinds 4 = .ok (.iload_n 1, 1) := by decide +kernel
theorem dX8_kinds_5 : decode cX8_kinds 5 = .ok (.i2l, 1) := by decide +kernel
theorem dX8_kinds_6 : decode cX8_kinds 6 = .ok (.invokevirtual 142, 3) := by decide +kernel
theorem dX8_kinds_9 : decode cX8_kinds 9 = .ok (.ifCond .ne 5, 3) := by decide +kernel
theorem dX8_kinds_12 : decode cX8_kinds 12 = .ok (.iconst (-1), 1) := by decide +kernel
theorem dX8_kinds_13 : decode cX8_kinds 13 = .ok (.ireturn, 1) := by decide +kernel
theorem dX8_kinds_14 : decode cX8_kinds 14 = .ok (.iconst 0, 1) := by decide +kernel
theorem dX8_kinds_15 : decode cX8_kinds 15 = .ok (.istore_n 2, 1) := by decide +kernel
theorem dX8_kinds_16 : decode cX8_kinds 16 = .ok (.iconst 0, 1) := by decide +kernel
theorem dX8_kinds_17 : decode cX8_kinds 17 = .ok (.istore_n 3, 1) := by decide +kernel
theorem dX8_kinds_18 : decode cX8_kinds 18 = .ok (.iload_n 3, 1) := by decide +kernel
theorem dX8_kinds_19 : decode cX8_kinds 19 = .ok (.iconst 2, 1) := by decide +kernel
theorem dX8_kinds_20 : decode cX8_kinds 20 = .ok (.if_icmp .gt 33, 3) := by decide +kernel
theorem dX8_kinds_23 : decode cX8_kinds 23 = .ok (.aload_n 0, 1) := by decide +kernel
theorem dX8_kinds_24 : decode cX8_kinds 24 = .ok (.iload_n 1, 1) := by decide +kernel
theorem dX8_kinds_25 : decode cX8_kinds 25 = .ok (.iload_n 3, 1) := by decide +kernel
theorem dX8_kinds_26 : decode cX8_kinds 26 = .ok (.aload_n 0, 1) := by decide +kernel
theorem dX8_kinds_27 : decode cX8_kinds 27 = .ok (.getfield 27, 3) := by decide +kernel
theorem dX8_kinds_30 : decode cX8_kinds 30 = .ok (.getfield 149, 3) := by decide +kernel
theorem dX8_kinds_33 : decode cX8_kinds 33 = .ok (.iload_n 1, 1) := by decide +kernel
theorem dX8_kinds_34 : decode cX8_kinds 34 = .ok (.iaload, 1) := by decide +kernel
theorem dX8_kinds_35 : decode cX8_kinds 35 = .ok (.invokevirtual 275, 3) := by decide +kernel
theorem dX8_kinds_38 : decode cX8_kinds 38 = .ok (.ifCond .eq 9, 3) := by decide +kernel
theorem dX8_kinds_41 : decode cX8_kinds 41 = .ok (.iload_n 2, 1) := by decide +kernel
theorem dX8_kinds_42 : decode cX8_kinds 42 = .ok (.iconst 1, 1) := by decide +kernel
theorem dX8_kinds_43 : decode cX8_kinds 43 = .ok (.iload_n 3, 1) := by decide +kernel
theorem dX8_kinds_44 : decode cX8_kinds 44 = .ok (.ishl, 1) := by decide +kernel
theorem dX8_kinds_45 : decode cX8_kinds 45 = .ok (.ior, 1) := by decide +kernel
theorem dX8_kinds_46 : decode cX8_kinds 46 = .ok (.istore_n 2, 1) := by decide +kernel
theorem dX8_kinds_47 : decode cX8_kinds 47 = .ok (.iinc 3 1, 3) := by decide +kernel
theorem dX8_kinds_50 : decode cX8_kinds 50 = .ok (.goto (-32), 3) := by decide +kernel
theorem dX8_kinds_53 : decode cX8_kinds 53 = .ok (.iload_n 2, 1) := by decide +kernel
theorem dX8_kinds_54 : decode cX8_kinds 54 = .ok (.ireturn, 1) := by decide +kernel
set_option maxRecDepth 20000 in
theorem ggX8_paces_X1_has : GoodIn wsX8_paces wsX1_has := goodIn_r _ [7, 8, 101, 102, 103] (by decide +kernel) (by decide +kernel)
set_option maxRecDepth 20000 in
theorem gX8_paces_X1_has : GoodIn wsX8_paces (wsV RX8 142 RX1 yX1_has wsX1_has) := goodIn_app (goodIn_of _ (by decide +kernel)) ggX8_paces_X1_has
set_option maxRecDepth 20000 in
theorem ggX8_paces_X8_fits : GoodIn wsX8_paces wsX8_fits := goodIn_r _ [13, 14, 1, 2, 15, 16, 17, 18, 19, 20, 21, 22, 23, 24, 6, 25, 8, 26, 27, 28, 29, 30, 31, 32, 33, 34, 35, 36, 37, 38, 39, 40, 41, 42, 43, 44, 45, 46, 47, 48, 49, 50, 51, 52, 53, 54, 55, 56, 57, 58, 59, 60, 61, 62, 63, 64, 65, 66, 67, 68, 69, 70, 71, 4, 5, 7, 72, 73, 74, 75, 76, 77, 78, 79, 80, 81, 82, 83, 84, 85, 86, 87, 88, 89, 90, 91, 92, 93, 94, 95, 96, 97, 98, 99, 100, 101, 102, 103, 104, 105, 106, 107, 108, 109, 110, 111, 112, 113, 114, 115] (by decide +kernel) (by decide +kernel)
set_option maxRecDepth 20000 in
theorem gX8_paces_X8_fits : GoodIn wsX8_paces (wsV RX8 275 RX8 yX8_fits wsX8_fits) := goodIn_app (goodIn_of _ (by decide +kernel)) ggX8_paces_X8_fits
theorem dX8_paces_0 : decode cX8_paces 0 = .ok (.aload_n 0, 1) := by decide +kernel
theorem dX8_paces_1 : decode cX8_paces 1 = .ok (.getfield 27, 3) := by decide +kernel
theorem dX8_paces_4 : decode cX8_paces 4 = .ok (.iload_n 1, 1) := by decide +kernel
theorem dX8_paces_5 : decode cX8_paces 5 = .ok (.i2l, 1) := by decide +kernel
theorem dX8_paces_6 : decode cX8_paces 6 = .ok (.invokevirtual 142, 3) := by decide +kernel
theorem dX8_paces_9 : decode cX8_paces 9 = .ok (.ifCond .ne 5, 3) := by decide +kernel
theorem dX8_paces_12 : decode cX8_paces 12 = .ok (.iconst (-1), 1) := by decide +kernel
theorem dX8_paces_13 : decode cX8_paces 13 = .ok (.ireturn, 1) := by decide +kernel
theorem dX8_paces_14 : decode cX8_paces 14 = .ok (.iconst 0, 1) := by decide +kernel
theorem dX8_paces_15 : decode cX8_paces 15 = .ok (.istore_n 2, 1) := by decide +kernel
theorem dX8_paces_16 : decode cX8_paces 16 = .ok (.iconst 0, 1) := by decide +kernel
theorem dX8_paces_17 : decode cX8_paces 17 = .ok (.istore_n 3, 1) := by decide +kernel
theorem dX8_paces_18 : decode cX8_paces 18 = .ok (.iload_n 3, 1) := by decide +kernel
theorem dX8_paces_19 : decode cX8_paces 19 = .ok (.bipush 9, 2) := by decide +kernel
theorem dX8_paces_21 : decode cX8_paces 21 = .ok (.if_icmp .gt 33, 3) := by decide +kernel
theorem dX8_paces_24 : decode cX8_paces 24 = .ok (.aload_n 0, 1) := by decide +kernel
theorem dX8_paces_25 : decode cX8_paces 25 = .ok (.iload_n 1, 1) := by decide +kernel
theorem dX8_paces_26 : decode cX8_paces 26 = .ok (.aload_n 0, 1) := by decide +kernel
theorem dX8_paces_27 : decode cX8_paces 27 = .ok (.getfield 27, 3) := by decide +kernel
theorem dX8_paces_30 : decode cX8_paces 30 = .ok (.getfield 146, 3) := by decide +kernel
theorem dX8_paces_33 : decode cX8_paces 33 = .ok (.iload_n 1, 1) := by decide +kernel
theorem dX8_paces_34 : decode cX8_paces 34 = .ok (.iaload, 1) := by decide +kernel
theorem dX8_paces_35 : decode cX8_paces 35 = .ok (.iload_n 3, 1) := by decide +kernel
theorem dX8_paces_36 : decode cX8_paces 36 = .ok (.invokevirtual 275, 3) := by decide +kernel
theorem dX8_paces_39 : decode cX8_paces 39 = .ok (.ifCond .eq 9, 3) := by decide +kernel
theorem dX8_paces_42 : decode cX8_paces 42 = .ok (.iload_n 2, 1) := by decide +kernel
theorem dX8_paces_43 : decode cX8_paces 43 = .ok (.iconst 1, 1) := by decide +kernel
theorem dX8_paces_44 : decode cX8_paces 44 = .ok (.iload_n 3, 1) := by decide +kernel
theorem dX8_paces_45 : decode cX8_paces 45 = .ok (.ishl, 1) := by decide +kernel
theorem dX8_paces_46 : decode cX8_paces 46 = .ok (.ior, 1) := by decide +kernel
theorem dX8_paces_47 : decode cX8_paces 47 = .ok (.istore_n 2, 1) := by decide +kernel
theorem dX8_paces_48 : decode cX8_paces 48 = .ok (.iinc 3 1, 3) := by decide +kernel
theorem dX8_paces_51 : decode cX8_paces 51 = .ok (.goto (-33), 3) := by decide +kernel
theorem dX8_paces_54 : decode cX8_paces 54 = .ok (.iload_n 2, 1) := by decide +kernel
theorem dX8_paces_55 : decode cX8_paces 55 = .ok (.ireturn, 1) := by decide +kernel
set_option maxRecDepth 20000 in
theorem ggX8_odds_X8_refusedRun : GoodIn wsX8_odds wsX8_refusedRun := goodIn_r _ [8, 2, 9, 10, 11, 12, 13, 14, 21, 22, 23, 24, 25, 26, 27, 28, 29, 30, 31, 32, 33, 34, 35, 36] (by decide +kernel) (by decide +kernel)
set_option maxRecDepth 20000 in
theorem gX8_odds_X8_refusedRun : GoodIn wsX8_odds (wsV RX8 174 RX8 yX8_refusedRun wsX8_refusedRun) := goodIn_app (goodIn_of _ (by decide +kernel)) ggX8_odds_X8_refusedRun
set_option maxRecDepth 20000 in
theorem ggX8_odds_X8_howManyFrom : GoodIn wsX8_odds wsX8_howManyFrom := goodIn_r _ [17] (by decide +kernel) (by decide +kernel)
set_option maxRecDepth 20000 in
theorem gX8_odds_X8_howManyFrom : GoodIn wsX8_odds (va_wsS RX8 279 yX8_howManyFrom wsX8_howManyFrom) := goodIn_app (goodIn_of _ (by decide +kernel)) ggX8_odds_X8_howManyFrom
set_option maxRecDepth 20000 in
theorem ggX8_odds_X8_commonDivisor : GoodIn wsX8_odds wsX8_commonDivisor := goodIn_r _ [20] (by decide +kernel) (by decide +kernel)
set_option maxRecDepth 20000 in
theorem gX8_odds_X8_commonDivisor : GoodIn wsX8_odds (va_wsS RX8 283 yX8_commonDivisor wsX8_commonDivisor) := goodIn_app (goodIn_of _ (by decide +kernel)) ggX8_odds_X8_commonDivisor
theorem dX8_odds_0 : decode cX8_odds 0 = .ok (.aload_n 0, 1) := by decide +kernel
theorem dX8_odds_1 : decode cX8_odds 1 = .ok (.iload_n 1, 1) := by decide +kernel
theorem dX8_odds_2 : decode cX8_odds 2 = .ok (.iload_n 2, 1) := by decide +kernel
theorem dX8_odds_3 : decode cX8_odds 3 = .ok (.invokevirtual 174, 3) := by decide +kernel
theorem dX8_odds_6 : decode cX8_odds 6 = .ok (.ifCond .ne 14, 3) := by decide +kernel
theorem dX8_odds_9 : decode cX8_odds 9 = .ok (.iload 5, 2) := by decide +kernel
theorem dX8_odds_11 : decode cX8_odds 11 = .ok (.ifCond .eq 13, 3) := by decide +kernel
theorem dX8_odds_14 : decode cX8_odds 14 = .ok (.iload 5, 2) := by decide +kernel
theorem dX8_odds_16 : decode cX8_odds 16 = .ok (.iconst 1, 1) := by decide +kernel
theorem dX8_odds_17 : decode cX8_odds 17 = .ok (.if_icmp .eq 7, 3) := by decide +kernel
theorem dX8_odds_20 : decode cX8_odds 20 = .ok (.ldc2_w 161, 3) := by decide +kernel
theorem dX8_odds_23 : decode cX8_odds 23 = .ok (.lreturn, 1) := by decide +kernel
theorem dX8_odds_24 : decode cX8_odds 24 = .ok (.iload_n 2, 1) := by decide +kernel
theorem dX8_odds_25 : decode cX8_odds 25 = .ok (.iload_n 1, 1) := by decide +kernel
theorem dX8_odds_26 : decode cX8_odds 26 = .ok (.isub, 1) := by decide +kernel
theorem dX8_odds_27 : decode cX8_odds 27 = .ok (.iconst 1, 1) := by decide +kernel
theorem dX8_odds_28 : decode cX8_odds 28 = .ok (.iadd, 1) := by decide +kernel
theorem dX8_odds_29 : decode cX8_odds 29 = .ok (.istore 6, 2) := by decide +kernel
theorem dX8_odds_31 : decode cX8_odds 31 = .ok (.aload_n 0, 1) := by decide +kernel
theorem dX8_odds_32 : decode cX8_odds 32 = .ok (.getfield 51, 3) := by decide +kernel
theorem dX8_odds_35 : decode cX8_odds 35 = .ok (.getfield 114, 3) := by decide +kernel
theorem dX8_odds_38 : decode cX8_odds 38 = .ok (.iload_n 1, 1) := by decide +kernel
theorem dX8_odds_39 : decode cX8_odds 39 = .ok (.iload_n 2, 1) := by decide +kernel
theorem dX8_odds_40 : decode cX8_odds 40 = .ok (.lload_n 3, 1) := by decide +kernel
theorem dX8_odds_41 : decode cX8_odds 41 = .ok (.invokestatic 279, 3) := by decide +kernel
theorem dX8_odds_44 : decode cX8_odds 44 = .ok (.istore 7, 2) := by decide +kernel
theorem dX8_odds_46 : decode cX8_odds 46 = .ok (.iload 7, 2) := by decide +kernel
theorem dX8_odds_48 : decode cX8_odds 48 = .ok (.iload 6, 2) := by decide +kernel
theorem dX8_odds_50 : decode cX8_odds 50 = .ok (.invokestatic 283, 3) := by decide +kernel
theorem dX8_odds_53 : decode cX8_odds 53 = .ok (.istore 8, 2) := by decide +kernel
theorem dX8_odds_55 : decode cX8_odds 55 = .ok (.iload 5, 2) := by decide +kernel
theorem dX8_odds_57 : decode cX8_odds 57 = .ok (.ifCond .ne 12, 3) := by decide +kernel
theorem dX8_odds_60 : decode cX8_odds 60 = .ok (.iload 7, 2) := by decide +kernel
theorem dX8_odds_62 : decode cX8_odds 62 = .ok (.iload 8, 2) := by decide +kernel
theorem dX8_odds_64 : decode cX8_odds 64 = .ok (.idiv, 1) := by decide +kernel
theorem dX8_odds_65 : decode cX8_odds 65 = .ok (.i2l, 1) := by decide +kernel
theorem dX8_odds_66 : decode cX8_odds 66 = .ok (.goto 9, 3) := by decide +kernel
theorem dX8_odds_69 : decode cX8_odds 69 = .ok (.iload 6, 2) := by decide +kernel
theorem dX8_odds_71 : decode cX8_odds 71 = .ok (.iload 8, 2) := by decide +kernel
theorem dX8_odds_73 : decode cX8_odds 73 = .ok (.idiv, 1) := by decide +kernel
theorem dX8_odds_74 : decode cX8_odds 74 = .ok (.i2l, 1) := by decide +kernel
theorem dX8_odds_75 : decode cX8_odds 75 = .ok (.lreturn, 1) := by decide +kernel
set_option maxRecDepth 20000 in
theorem ggX8_fits_X1_becomeLike : GoodIn wsX8_fits wsX1_becomeLike := goodIn_r _ [15, 16, 17, 18, 19, 20, 21, 22, 95, 96, 97] (by decide +kernel) (by decide +kernel)
set_option maxRecDepth 20000 in
theorem gX8_fits_X1_becomeLike : GoodIn wsX8_fits (wsV RX8 123 RX1 yX1_becomeLike wsX1_becomeLike) := goodIn_app (goodIn_of _ (by decide +kernel)) ggX8_fits_X1_becomeLike
set_option maxRecDepth 20000 in
theorem ggX8_fits_X3_becomeLike : GoodIn wsX8_fits wsX3_becomeLike := goodIn_r _ [27, 28, 29, 30, 19, 20, 21, 31, 32, 33, 26, 34, 35, 100, 101, 102] (by decide +kernel) (by decide +kernel)
set_option maxRecDepth 20000 in
theorem gX8_fits_X3_becomeLike : GoodIn wsX8_fits (wsV RX8 139 RX3 yX3_becomeLike wsX3_becomeLike) := goodIn_app (goodIn_of _ (by decide +kernel)) ggX8_fits_X3_becomeLike
set_option maxRecDepth 20000 in
theorem ggX8_fits_X3_suffer : GoodIn wsX8_fits wsX3_suffer := goodIn_r _ [39, 40, 41, 29, 42, 35, 43, 44, 45, 46, 47, 48, 49, 26, 50, 28, 51, 52, 53, 54, 55, 56, 57, 58, 59, 60, 14, 61, 22, 17, 62, 63, 64, 65, 16, 66, 67, 68, 69, 70, 71, 103, 104, 105, 106, 100, 101, 102, 95, 96, 97] (by decide +kernel) (by decide +kernel)
set_option maxRecDepth 20000 in
theorem gX8_fits_X3_suffer : GoodIn wsX8_fits (wsV RX8 207 RX3 yX3_suffer wsX3_suffer) := goodIn_app (goodIn_of _ (by decide +kernel)) ggX8_fits_X3_suffer
set_option maxRecDepth 20000 in
theorem ggX8_fits_X4_areSoBy : GoodIn wsX8_fits wsX4_areSoBy := goodIn_r _ [76, 77, 78, 79, 80, 81, 48, 49, 26, 50, 28, 107, 108, 109, 100, 101, 102] (by decide +kernel) (by decide +kernel)
set_option maxRecDepth 20000 in
theorem gX8_fits_X4_areSoBy : GoodIn wsX8_fits (wsV RX8 290 RX4 yX4_areSoBy wsX4_areSoBy) := goodIn_app (goodIn_of _ (by decide +kernel)) ggX8_fits_X4_areSoBy
theorem dX8_fits_0 : decode cX8_fits 0 = .ok (.aload_n 0, 1) := by decide +kernel
theorem dX8_fits_1 : decode cX8_fits 1 = .ok (.getfield 31, 3) := by decide +kernel
theorem dX8_fits_4 : decode cX8_fits 4 = .ok (.aload_n 0, 1) := by decide +kernel
theorem dX8_fits_5 : decode cX8_fits 5 = .ok (.getfield 27, 3) := by decide +kernel
theorem dX8_fits_8 : decode cX8_fits 8 = .ok (.invokevirtual 123, 3) := by decide +kernel
theorem dX8_fits_11 : decode cX8_fits 11 = .ok (.aload_n 0, 1) := by decide +kernel
theorem dX8_fits_12 : decode cX8_fits 12 = .ok (.getfield 31, 3) := by decide +kernel
theorem dX8_fits_15 : decode cX8_fits 15 = .ok (.getfield 146, 3) := by decide +kernel
theorem dX8_fits_18 : decode cX8_fits 18 = .ok (.iload_n 1, 1) := by decide +kernel
theorem dX8_fits_19 : decode cX8_fits 19 = .ok (.iload_n 2, 1) := by decide +kernel
theorem dX8_fits_20 : decode cX8_fits 20 = .ok (.iastore, 1) := by decide +kernel
theorem dX8_fits_21 : decode cX8_fits 21 = .ok (.aload_n 0, 1) := by decide +kernel
theorem dX8_fits_22 : decode cX8_fits 22 = .ok (.getfield 31, 3) := by decide +kernel
theorem dX8_fits_25 : decode cX8_fits 25 = .ok (.getfield 149, 3) := by decide +kernel
theorem dX8_fits_28 : decode cX8_fits 28 = .ok (.iload_n 1, 1) := by decide +kernel
theorem dX8_fits_29 : decode cX8_fits 29 = .ok (.iload_n 3, 1) := by decide +kernel
theorem dX8_fits_30 : decode cX8_fits 30 = .ok (.iastore, 1) := by decide +kernel
theorem dX8_fits_31 : decode cX8_fits 31 = .ok (.aload_n 0, 1) := by decide +kernel
theorem dX8_fits_32 : decode cX8_fits 32 = .ok (.getfield 58, 3) := by decide +kernel
theorem dX8_fits_35 : decode cX8_fits 35 = .ok (.aload_n 0, 1) := by decide +kernel
theorem dX8_fits_36 : decode cX8_fits 36 = .ok (.getfield 55, 3) := by decide +kernel
theorem dX8_fits_39 : decode cX8_fits 39 = .ok (.invokevirtual 139, 3) := by decide +kernel
theorem dX8_fits_42 : decode cX8_fits 42 = .ok (.iconst 0, 1) := by decide +kernel
theorem dX8_fits_43 : decode cX8_fits 43 = .ok (.istore 4, 2) := by decide +kernel
theorem dX8_fits_45 : decode cX8_fits 45 = .ok (.iload 4, 2) := by decide +kernel
theorem dX8_fits_47 : decode cX8_fits 47 = .ok (.aload_n 0, 1) := by decide +kernel
theorem dX8_fits_48 : decode cX8_fits 48 = .ok (.getfield 37, 3) := by decide +kernel
theorem dX8_fits_51 : decode cX8_fits 51 = .ok (.getfield 135, 3) := by decide +kernel
theorem dX8_fits_54 : decode cX8_fits 54 = .ok (.if_icmp .ge 31, 3) := by decide +kernel
theorem dX8_fits_57 : decode cX8_fits 57 = .ok (.aload_n 0, 1) := by decide +kernel
theorem dX8_fits_58 : decode cX8_fits 58 = .ok (.getfield 58, 3) := by decide +kernel
theorem dX8_fits_61 : decode cX8_fits 61 = .ok (.aload_n 0, 1) := by decide +kernel
theorem dX8_fits_62 : decode cX8_fits 62 = .ok (.getfield 37, 3) := by decide +kernel
theorem dX8_fits_65 : decode cX8_fits 65 = .ok (.getfield 286, 3) := by decide +kernel
theorem dX8_fits_68 : decode cX8_fits 68 = .ok (.iload 4, 2) := by decide +kernel
theorem dX8_fits_70 : decode cX8_fits 70 = .ok (.aaload, 1) := by decide +kernel
theorem dX8_fits_71 : decode cX8_fits 71 = .ok (.aload_n 0, 1) := by decide +kernel
theorem dX8_fits_72 : decode cX8_fits 72 = .ok (.getfield 31, 3) := by decide +kernel
theorem dX8_fits_75 : decode cX8_fits 75 = .ok (.invokevirtual 207, 3) := by decide +kernel
theorem dX8_fits_78 : decode cX8_fits 78 = .ok (.pop, 1) := by decide +kernel
theorem dX8_fits_79 : decode cX8_fits 79 = .ok (.iinc 4 1, 3) := by decide +kernel
theorem dX8_fits_82 : decode cX8_fits 82 = .ok (.goto (-37), 3) := by decide +kernel
theorem dX8_fits_85 : decode cX8_fits 85 = .ok (.aload_n 0, 1) := by decide +kernel
theorem dX8_fits_86 : decode cX8_fits 86 = .ok (.getfield 71, 3) := by decide +kernel
theorem dX8_fits_89 : decode cX8_fits 89 = .ok (.aload_n 0, 1) := by decide +kernel
theorem dX8_fits_90 : decode cX8_fits 90 = .ok (.getfield 58, 3) := by decide +kernel
theorem dX8_fits_93 : decode cX8_fits 93 = .ok (.invokevirtual 290, 3) := by decide +kernel
theorem dX8_fits_96 : decode cX8_fits 96 = .ok (.ireturn, 1) := by decide +kernel
theorem dX8_commonDivisor_0 : decode cX8_commonDivisor 0 = .ok (.iload_n 1, 1) := by decide +kernel
theorem dX8_commonDivisor_1 : decode cX8_commonDivisor 1 = .ok (.istore_n 2, 1) := by decide +kernel
theorem dX8_commonDivisor_2 : decode cX8_commonDivisor 2 = .ok (.iload_n 2, 1) := by decide +kernel
theorem dX8_commonDivisor_3 : decode cX8_commonDivisor 3 = .ok (.iconst 1, 1) := by decide +kernel
theorem dX8_commonDivisor_4 : decode cX8_commonDivisor 4 = .ok (.if_icmp .le 23, 3) := by decide +kernel
theorem dX8_commonDivisor_7 : decode cX8_commonDivisor 7 = .ok (.iload_n 0, 1) := by decide +kernel
theorem dX8_commonDivisor_8 : decode cX8_commonDivisor 8 = .ok (.iload_n 2, 1) := by decide +kernel
theorem dX8_commonDivisor_9 : decode cX8_commonDivisor 9 = .ok (.irem, 1) := by decide +kernel
theorem dX8_commonDivisor_10 : decode cX8_commonDivisor 10 = .ok (.ifCond .ne 11, 3) := by decide +kernel
theorem dX8_commonDivisor_13 : decode cX8_commonDivisor 13 = .ok (.iload_n 1, 1) := by decide +kernel
theorem dX8_commonDivisor_14 : decode cX8_commonDivisor 14 = .ok (.iload_n 2, 1) := by decide +kernel
theorem dX8_commonDivisor_15 : decode cX8_commonDivisor 15 = .ok (.irem, 1) := by decide +kernel
theorem dX8_commonDivisor_16 : decode cX8_commonDivisor 16 = .ok (.ifCond .ne 5, 3) := by decide +kernel
theorem dX8_commonDivisor_19 : decode cX8_commonDivisor 19 = .ok (.iload_n 2, 1) := by decide +kernel
theorem dX8_commonDivisor_20 : decode cX8_commonDivisor 20 = .ok (.ireturn, 1) := by decide +kernel
theorem dX8_commonDivisor_21 : decode cX8_commonDivisor 21 = .ok (.iinc 2 (-1), 3) := by decide +kernel
theorem dX8_commonDivisor_24 : decode cX8_commonDivisor 24 = .ok (.goto (-22), 3) := by decide +kernel
theorem dX8_commonDivisor_27 : decode cX8_commonDivisor 27 = .ok (.iconst 1, 1) := by decide +kernel
theorem dX8_commonDivisor_28 : decode cX8_commonDivisor 28 = .ok (.ireturn, 1) := by decide +kernel
set_option maxRecDepth 20000 in
theorem ggX8_sheet_X8_isSheet : GoodIn wsX8_sheet wsX8_isSheet := goodIn_r _ [6] (by decide +kernel) (by decide +kernel)
set_option maxRecDepth 20000 in
theorem gX8_sheet_X8_isSheet : GoodIn wsX8_sheet (va_wsS RX8 83 yX8_isSheet wsX8_isSheet) := goodIn_app (goodIn_of _ (by decide +kernel)) ggX8_sheet_X8_isSheet
set_option maxRecDepth 20000 in
theorem ggX8_sheet_X8_isLane : GoodIn wsX8_sheet wsX8_isLane := goodIn_r _ [9] (by decide +kernel) (by decide +kernel)
set_option maxRecDepth 20000 in
theorem gX8_sheet_X8_isLane : GoodIn wsX8_sheet (va_wsS RX8 87 yX8_isLane wsX8_isLane) := goodIn_app (goodIn_of _ (by decide +kernel)) ggX8_sheet_X8_isLane
set_option maxRecDepth 20000 in
theorem ggX8_sheet_X8_failed : GoodIn wsX8_sheet wsX8_failed := goodIn_r _ [13, 1, 27, 28, 29, 30, 31, 32, 33, 34, 35, 36, 37, 38, 39] (by decide +kernel) (by decide +kernel)
set_option maxRecDepth 20000 in
theorem gX8_sheet_X8_failed : GoodIn wsX8_sheet (wsV RX8 94 RX8 yX8_failed wsX8_failed) := goodIn_app (goodIn_of _ (by decide +kernel)) ggX8_sheet_X8_failed
set_option maxRecDepth 20000 in
theorem ggX8_sheet_X5_getRow : GoodIn wsX8_sheet wsX5_getRow := goodIn_r _ [18, 19, 20, 21, 22, 23, 24, 25, 26, 40, 41, 42, 43] (by decide +kernel) (by decide +kernel)
set_option maxRecDepth 20000 in
theorem gX8_sheet_X5_getRow : GoodIn wsX8_sheet (wsV RX8 294 RX5 yX5_getRow wsX5_getRow) := goodIn_app (goodIn_of _ (by decide +kernel)) ggX8_sheet_X5_getRow
theorem dX8_sheet_0 : decode cX8_sheet 0 = .ok (.aload_n 0, 1) := by decide +kernel
theorem dX8_sheet_1 : decode cX8_sheet 1 = .ok (.iconst 0, 1) := by decide +kernel
theorem dX8_sheet_2 : decode cX8_sheet 2 = .ok (.putfield 79, 3) := by decide +kernel
theorem dX8_sheet_5 : decode cX8_sheet 5 = .ok (.iload_n 1, 1) := by decide +kernel
theorem dX8_sheet_6 : decode cX8_sheet 6 = .ok (.invokestatic 83, 3) := by decide +kernel
theorem dX8_sheet_9 : decode cX8_sheet 9 = .ok (.ifCond .ne 5, 3) := by decide +kernel
theorem dX8_sheet_12 : decode cX8_sheet 12 = .ok (.iconst (-1), 1) := by decide +kernel
theorem dX8_sheet_13 : decode cX8_sheet 13 = .ok (.ireturn, 1) := by decide +kernel
theorem dX8_sheet_14 : decode cX8_sheet 14 = .ok (.iload_n 2, 1) := by decide +kernel
theorem dX8_sheet_15 : decode cX8_sheet 15 = .ok (.invokestatic 87, 3) := by decide +kernel
theorem dX8_sheet_18 : decode cX8_sheet 18 = .ok (.ifCond .eq 9, 3) := by decide +kernel
theorem dX8_sheet_21 : decode cX8_sheet 21 = .ok (.iload_n 3, 1) := by decide +kernel
theorem dX8_sheet_22 : decode cX8_sheet 22 = .ok (.bipush 60, 2) := by decide +kernel
theorem dX8_sheet_24 : decode cX8_sheet 24 = .ok (.if_icmp .le 6, 3) := by decide +kernel
theorem dX8_sheet_27 : decode cX8_sheet 27 = .ok (.bipush (-2), 2) := by decide +kernel
theorem dX8_sheet_29 : decode cX8_sheet 29 = .ok (.ireturn, 1) := by decide +kernel
theorem dX8_sheet_30 : decode cX8_sheet 30 = .ok (.iload_n 3, 1) := by decide +kernel
theorem dX8_sheet_31 : decode cX8_sheet 31 = .ok (.ifCond .ge 9, 3) := by decide +kernel
theorem dX8_sheet_34 : decode cX8_sheet 34 = .ok (.aload_n 0, 1) := by decide +kernel
theorem dX8_sheet_35 : decode cX8_sheet 35 = .ok (.iconst 4, 1) := by decide +kernel
theorem dX8_sheet_36 : decode cX8_sheet 36 = .ok (.invokevirtual 94, 3) := by decide +kernel
theorem dX8_sheet_39 : decode cX8_sheet 39 = .ok (.ireturn, 1) := by decide +kernel
theorem dX8_sheet_40 : decode cX8_sheet 40 = .ok (.aload_n 0, 1) := by decide +kernel
theorem dX8_sheet_41 : decode cX8_sheet 41 = .ok (.getfield 13, 3) := by decide +kernel
theorem dX8_sheet_44 : decode cX8_sheet 44 = .ok (.iload_n 1, 1) := by decide +kernel
theorem dX8_sheet_45 : decode cX8_sheet 45 = .ok (.aaload, 1) := by decide +kernel
theorem dX8_sheet_46 : decode cX8_sheet 46 = .ok (.iload_n 2, 1) := by decide +kernel
theorem dX8_sheet_47 : decode cX8_sheet 47 = .ok (.iload_n 3, 1) := by decide +kernel
theorem dX8_sheet_48 : decode cX8_sheet 48 = .ok (.invokevirtual 294, 3) := by decide +kernel
theorem dX8_sheet_51 : decode cX8_sheet 51 = .ok (.iconst 1, 1) := by decide +kernel
theorem dX8_sheet_52 : decode cX8_sheet 52 = .ok (.ireturn, 1) := by decide +kernel
set_option maxRecDepth 20000 in
theorem ggX8_lose_X8_isSheet : GoodIn wsX8_lose wsX8_isSheet := goodIn_r _ [5] (by decide +kernel) (by decide +kernel)
set_option maxRecDepth 20000 in
theorem gX8_lose_X8_isSheet : GoodIn wsX8_lose (va_wsS RX8 83 yX8_isSheet wsX8_isSheet) := goodIn_app (goodIn_of _ (by decide +kernel)) ggX8_lose_X8_isSheet
set_option maxRecDepth 20000 in
theorem ggX8_lose_X5_loseRow : GoodIn wsX8_lose wsX5_loseRow := goodIn_r _ [10, 11, 12, 26, 27, 28, 29] (by decide +kernel) (by decide +kernel)
set_option maxRecDepth 20000 in
theorem gX8_lose_X5_loseRow : GoodIn wsX8_lose (wsV RX8 298 RX5 yX5_loseRow wsX5_loseRow) := goodIn_app (goodIn_of _ (by decide +kernel)) ggX8_lose_X5_loseRow
theorem dX8_lose_0 : decode cX8_lose 0 = .ok (.iload_n 1, 1) := by decide +kernel
theorem dX8_lose_1 : decode cX8_lose 1 = .ok (.invokestatic 83, 3) := by decide +kernel
theorem dX8_lose_4 : decode cX8_lose 4 = .ok (.ifCond .ne 5, 3) := by decide +kernel
theorem dX8_lose_7 : decode cX8_lose 7 = .ok (.iconst (-1), 1) := by decide +kernel
theorem dX8_lose_8 : decode cX8_lose 8 = .ok (.ireturn, 1) := by decide +kernel
theorem dX8_lose_9 : decode cX8_lose 9 = .ok (.aload_n 0, 1) := by decide +kernel
theorem dX8_lose_10 : decode cX8_lose 10 = .ok (.getfield 13, 3) := by decide +kernel
theorem dX8_lose_13 : decode cX8_lose 13 = .ok (.iload_n 1, 1) := by decide +kernel
theorem dX8_lose_14 : decode cX8_lose 14 = .ok (.aaload, 1) := by decide +kernel
theorem dX8_lose_15 : decode cX8_lose 15 = .ok (.invokevirtual 298, 3) := by decide +kernel
theorem dX8_lose_18 : decode cX8_lose 18 = .ok (.ifCond .eq 7, 3) := by decide +kernel
theorem dX8_lose_21 : decode cX8_lose 21 = .ok (.iconst 1, 1) := by decide +kernel
theorem dX8_lose_22 : decode cX8_lose 22 = .ok (.goto 4, 3) := by decide +kernel
theorem dX8_lose_25 : decode cX8_lose 25 = .ok (.iconst 0, 1) := by decide +kernel
theorem dX8_lose_26 : decode cX8_lose 26 = .ok (.ireturn, 1) := by decide +kernel
set_option maxRecDepth 20000 in
theorem ggX8_put_X8_isSheet : GoodIn wsX8_put wsX8_isSheet := goodIn_r _ [8] (by decide +kernel) (by decide +kernel)
set_option maxRecDepth 20000 in
theorem gX8_put_X8_isSheet : GoodIn wsX8_put (va_wsS RX8 83 yX8_isSheet wsX8_isSheet) := goodIn_app (goodIn_of _ (by decide +kernel)) ggX8_put_X8_isSheet
set_option maxRecDepth 20000 in
theorem ggX8_put_X8_failed : GoodIn wsX8_put wsX8_failed := goodIn_r _ [12, 1, 24, 25, 26, 27, 28, 29, 30, 31, 32, 33, 34, 35, 36] (by decide +kernel) (by decide +kernel)
set_option maxRecDepth 20000 in
theorem gX8_put_X8_failed : GoodIn wsX8_put (wsV RX8 94 RX8 yX8_failed wsX8_failed) := goodIn_app (goodIn_of _ (by decide +kernel)) ggX8_put_X8_failed
set_option maxRecDepth 20000 in
theorem ggX8_put_X5_hasCells : GoodIn wsX8_put wsX5_hasCells := goodIn_r _ [17, 18, 37, 38, 39, 40] (by decide +kernel) (by decide +kernel)
set_option maxRecDepth 20000 in
theorem gX8_put_X5_hasCells : GoodIn wsX8_put (wsV RX8 97 RX5 yX5_hasCells wsX5_hasCells) := goodIn_app (goodIn_of _ (by decide +kernel)) ggX8_put_X5_hasCells
set_option maxRecDepth 20000 in
theorem ggX8_put_X5_cut : GoodIn wsX8_put wsX5_cut := goodIn_r _ [22, 23, 37, 38, 39, 40] (by decide +kernel) (by decide +kernel)
set_option maxRecDepth 20000 in
theorem gX8_put_X5_cut : GoodIn wsX8_put (wsV RX8 307 RX5 yX5_cut wsX5_cut) := goodIn_app (goodIn_of _ (by decide +kernel)) ggX8_put_X5_cut
theorem dX8_put_0 : decode cX8_put 0 = .ok (.aload_n 0, 1) := by decide +kernel
theorem dX8_put_1 : decode cX8_put 1 = .ok (.iconst 0, 1) := by decide +kernel
theorem dX8_put_2 : decode cX8_put 2 = .ok (.putfield 79, 3) := by decide +kernel
theorem dX8_put_5 : decode cX8_put 5 = .ok (.iload_n 1, 1) := by decide +kernel
theorem dX8_put_6 : decode cX8_put 6 = .ok (.invokestatic 83, 3) := by decide +kernel
theorem dX8_put_9 : decode cX8_put 9 = .ok (.ifCond .ne 5, 3) := by decide +kernel
theorem dX8_put_12 : decode cX8_put 12 = .ok (.iconst (-1), 1) := by decide +kernel
theorem dX8_put_13 : decode cX8_put 13 = .ok (.ireturn, 1) := by decide +kernel
theorem dX8_put_14 : decode cX8_put 14 = .ok (.aload_n 0, 1) := by decide +kernel
theorem dX8_put_15 : decode cX8_put 15 = .ok (.getfield 13, 3) := by decide +kernel
theorem dX8_put_18 : decode cX8_put 18 = .ok (.iload_n 1, 1) := by decide +kernel
theorem dX8_put_19 : decode cX8_put 19 = .ok (.aaload, 1) := by decide +kernel
theorem dX8_put_20 : decode cX8_put 20 = .ok (.astore 4, 2) := by decide +kernel
theorem dX8_put_22 : decode cX8_put 22 = .ok (.aload 4, 2) := by decide +kernel
theorem dX8_put_24 : decode cX8_put 24 = .ok (.getfield 301, 3) := by decide +kernel
theorem dX8_put_27 : decode cX8_put 27 = .ok (.ifCond .ne 9, 3) := by decide +kernel
theorem dX8_put_30 : decode cX8_put 30 = .ok (.aload_n 0, 1) := by decide +kernel
theorem dX8_put_31 : decode cX8_put 31 = .ok (.iconst 1, 1) := by decide +kernel
theorem dX8_put_32 : decode cX8_put 32 = .ok (.invokevirtual 94, 3) := by decide +kernel
theorem dX8_put_35 : decode cX8_put 35 = .ok (.ireturn, 1) := by decide +kernel
theorem dX8_put_36 : decode cX8_put 36 = .ok (.aload 4, 2) := by decide +kernel
theorem dX8_put_38 : decode cX8_put 38 = .ok (.iload_n 2, 1) := by decide +kernel
theorem dX8_put_39 : decode cX8_put 39 = .ok (.iconst 1, 1) := by decide +kernel
theorem dX8_put_40 : decode cX8_put 40 = .ok (.invokevirtual 97, 3) := by decide +kernel
theorem dX8_put_43 : decode cX8_put 43 = .ok (.ifCond .ne 9, 3) := by decide +kernel
theorem dX8_put_46 : decode cX8_put 46 = .ok (.aload_n 0, 1) := by decide +kernel
theorem dX8_put_47 : decode cX8_put 47 = .ok (.iconst 3, 1) := by decide +kernel
theorem dX8_put_48 : decode cX8_put 48 = .ok (.invokevirtual 94, 3) := by decide +kernel
theorem dX8_put_51 : decode cX8_put 51 = .ok (.ireturn, 1) := by decide +kernel
theorem dX8_put_52 : decode cX8_put 52 = .ok (.aload 4, 2) := by decide +kernel
theorem dX8_put_54 : decode cX8_put 54 = .ok (.getfield 305, 3) := by decide +kernel
theorem dX8_put_57 : decode cX8_put 57 = .ok (.iload_n 2, 1) := by decide +kernel
theorem dX8_put_58 : decode cX8_put 58 = .ok (.aload 4, 2) := by decide +kernel
theorem dX8_put_60 : decode cX8_put 60 = .ok (.iload_n 3, 1) := by decide +kernel
theorem dX8_put_61 : decode cX8_put 61 = .ok (.invokevirtual 307, 3) := by decide +kernel
theorem dX8_put_64 : decode cX8_put 64 = .ok (.iastore, 1) := by decide +kernel
theorem dX8_put_65 : decode cX8_put 65 = .ok (.iconst 1, 1) := by decide +kernel
theorem dX8_put_66 : decode cX8_put 66 = .ok (.ireturn, 1) := by decide +kernel
set_option maxRecDepth 20000 in
theorem ggX8_cell_X8_isSheet : GoodIn wsX8_cell wsX8_isSheet := goodIn_r _ [8] (by decide +kernel) (by decide +kernel)
set_option maxRecDepth 20000 in
theorem gX8_cell_X8_isSheet : GoodIn wsX8_cell (va_wsS RX8 83 yX8_isSheet wsX8_isSheet) := goodIn_app (goodIn_of _ (by decide +kernel)) ggX8_cell_X8_isSheet
set_option maxRecDepth 20000 in
theorem ggX8_cell_X8_isLane : GoodIn wsX8_cell wsX8_isLane := goodIn_r _ [11] (by decide +kernel) (by decide +kernel)
set_option maxRecDepth 20000 in
theorem gX8_cell_X8_isLane : GoodIn wsX8_cell (va_wsS RX8 87 yX8_isLane wsX8_isLane) := goodIn_app (goodIn_of _ (by decide +kernel)) ggX8_cell_X8_isLane
set_option maxRecDepth 20000 in
theorem ggX8_cell_X5_faultTakenAs : GoodIn wsX8_cell wsX5_faultTakenAs := goodIn_r _ [16, 17, 18, 41, 42, 43, 44] (by decide +kernel) (by decide +kernel)
set_option maxRecDepth 20000 in
theorem gX8_cell_X5_faultTakenAs : GoodIn wsX8_cell (wsV RX8 90 RX5 yX5_faultTakenAs wsX5_faultTakenAs) := goodIn_app (goodIn_of _ (by decide +kernel)) ggX8_cell_X5_faultTakenAs
set_option maxRecDepth 20000 in
theorem ggX8_cell_X8_lost : GoodIn wsX8_cell wsX8_lost := goodIn_r _ [22, 1, 2, 28, 29, 30, 31, 32, 33, 34, 35, 36, 37, 38, 39, 40] (by decide +kernel) (by decide +kernel)
set_option maxRecDepth 20000 in
theorem gX8_cell_X8_lost : GoodIn wsX8_cell (wsV RX8 185 RX8 yX8_lost wsX8_lost) := goodIn_app (goodIn_of _ (by decide +kernel)) ggX8_cell_X8_lost
set_option maxRecDepth 20000 in
theorem ggX8_cell_X5_hasCells : GoodIn wsX8_cell wsX5_hasCells := goodIn_r _ [26, 27, 41, 42, 43, 44] (by decide +kernel) (by decide +kernel)
set_option maxRecDepth 20000 in
theorem gX8_cell_X5_hasCells : GoodIn wsX8_cell (wsV RX8 97 RX5 yX5_hasCells wsX5_hasCells) := goodIn_app (goodIn_of _ (by decide +kernel)) ggX8_cell_X5_hasCells
theorem dX8_cell_0 : decode cX8_cell 0 = .ok (.aload_n 0, 1) := by decide +kernel
theorem dX8_cell_1 : decode cX8_cell 1 = .ok (.iconst 0, 1) := by decide +kernel
theorem dX8_cell_2 : decode cX8_cell 2 = .ok (.putfield 79, 3) := by decide +kernel
theorem dX8_cell_5 : decode cX8_cell 5 = .ok (.iload_n 1, 1) := by decide +kernel
theorem dX8_cell_6 : decode cX8_cell 6 = .ok (.invokestatic 83, 3) := by decide +kernel
theorem dX8_cell_9 : decode cX8_cell 9 = .ok (.ifCond .eq 10, 3) := by decide +kernel
theorem dX8_cell_12 : decode cX8_cell 12 = .ok (.iload_n 3, 1) := by decide +kernel
theorem dX8_cell_13 : decode cX8_cell 13 = .ok (.invokestatic 87, 3) := by decide +kernel
theorem dX8_cell_16 : decode cX8_cell 16 = .ok (.ifCond .ne 7, 3) := by decide +kernel
theorem dX8_cell_19 : decode cX8_cell 19 = .ok (.ldc2_w 161, 3) := by decide +kernel
theorem dX8_cell_22 : decode cX8_cell 22 = .ok (.lreturn, 1) := by decide +kernel
theorem dX8_cell_23 : decode cX8_cell 23 = .ok (.aload_n 0, 1) := by decide +kernel
theorem dX8_cell_24 : decode cX8_cell 24 = .ok (.getfield 13, 3) := by decide +kernel
theorem dX8_cell_27 : decode cX8_cell 27 = .ok (.iload_n 1, 1) := by decide +kernel
theorem dX8_cell_28 : decode cX8_cell 28 = .ok (.aaload, 1) := by decide +kernel
theorem dX8_cell_29 : decode cX8_cell 29 = .ok (.astore 4, 2) := by decide +kernel
theorem dX8_cell_31 : decode cX8_cell 31 = .ok (.aload 4, 2) := by decide +kernel
theorem dX8_cell_33 : decode cX8_cell 33 = .ok (.iload_n 3, 1) := by decide +kernel
theorem dX8_cell_34 : decode cX8_cell 34 = .ok (.invokevirtual 90, 3) := by decide +kernel
theorem dX8_cell_37 : decode cX8_cell 37 = .ok (.istore 5, 2) := by decide +kernel
theorem dX8_cell_39 : decode cX8_cell 39 = .ok (.iload 5, 2) := by decide +kernel
theorem dX8_cell_41 : decode cX8_cell 41 = .ok (.ifCond .eq 10, 3) := by decide +kernel
theorem dX8_cell_44 : decode cX8_cell 44 = .ok (.aload_n 0, 1) := by decide +kernel
theorem dX8_cell_45 : decode cX8_cell 45 = .ok (.iload 5, 2) := by decide +kernel
theorem dX8_cell_47 : decode cX8_cell 47 = .ok (.invokevirtual 185, 3) := by decide +kernel
theorem dX8_cell_50 : decode cX8_cell 50 = .ok (.lreturn, 1) := by decide +kernel
theorem dX8_cell_51 : decode cX8_cell 51 = .ok (.aload 4, 2) := by decide +kernel
theorem dX8_cell_53 : decode cX8_cell 53 = .ok (.iload_n 2, 1) := by decide +kernel
theorem dX8_cell_54 : decode cX8_cell 54 = .ok (.iconst 1, 1) := by decide +kernel
theorem dX8_cell_55 : decode cX8_cell 55 = .ok (.invokevirtual 97, 3) := by decide +kernel
theorem dX8_cell_58 : decode cX8_cell 58 = .ok (.ifCond .eq 14, 3) := by decide +kernel
theorem dX8_cell_61 : decode cX8_cell 61 = .ok (.aload 4, 2) := by decide +kernel
theorem dX8_cell_63 : decode cX8_cell 63 = .ok (.getfield 305, 3) := by decide +kernel
theorem dX8_cell_66 : decode cX8_cell 66 = .ok (.iload_n 2, 1) := by decide +kernel
theorem dX8_cell_67 : decode cX8_cell 67 = .ok (.iaload, 1) := by decide +kernel
theorem dX8_cell_68 : decode cX8_cell 68 = .ok (.i2l, 1) := by decide +kernel
theorem dX8_cell_69 : decode cX8_cell 69 = .ok (.goto 8, 3) := by decide +kernel
theorem dX8_cell_72 : decode cX8_cell 72 = .ok (.aload_n 0, 1) := by decide +kernel
theorem dX8_cell_73 : decode cX8_cell 73 = .ok (.iconst 3, 1) := by decide +kernel
theorem dX8_cell_74 : decode cX8_cell 74 = .ok (.invokevirtual 185, 3) := by decide +kernel
theorem dX8_cell_77 : decode cX8_cell 77 = .ok (.lreturn, 1) := by decide +kernel
set_option maxRecDepth 20000 in
theorem ggX8_copy_X8_isSheet : GoodIn wsX8_copy wsX8_isSheet := goodIn_r _ [13] (by decide +kernel) (by decide +kernel)
set_option maxRecDepth 20000 in
theorem gX8_copy_X8_isSheet : GoodIn wsX8_copy (va_wsS RX8 83 yX8_isSheet wsX8_isSheet) := goodIn_app (goodIn_of _ (by decide +kernel)) ggX8_copy_X8_isSheet
set_option maxRecDepth 20000 in
theorem ggX8_copy_X8_failed : GoodIn wsX8_copy wsX8_failed := goodIn_r _ [17, 1, 24, 25, 26, 27, 28, 29, 30, 31, 32, 33, 34, 35, 36] (by decide +kernel) (by decide +kernel)
set_option maxRecDepth 20000 in
theorem gX8_copy_X8_failed : GoodIn wsX8_copy (wsV RX8 94 RX8 yX8_failed wsX8_failed) := goodIn_app (goodIn_of _ (by decide +kernel)) ggX8_copy_X8_failed
set_option maxRecDepth 20000 in
theorem ggX8_copy_X5_hasCells : GoodIn wsX8_copy wsX5_hasCells := goodIn_r _ [22, 23, 37, 38, 39, 40] (by decide +kernel) (by decide +kernel)
set_option maxRecDepth 20000 in
theorem gX8_copy_X5_hasCells : GoodIn wsX8_copy (wsV RX8 97 RX5 yX5_hasCells wsX5_hasCells) := goodIn_app (goodIn_of _ (by decide +kernel)) ggX8_copy_X5_hasCells
theorem dX8_copy_0 : decode cX8_copy 0 = .ok (.aload_n 0, 1) := by decide +kernel
theorem dX8_copy_1 : decode cX8_copy 1 = .ok (.iconst 0, 1) := by decide +kernel
theorem dX8_copy_2 : decode cX8_copy 2 = .ok (.putfield 79, 3) := by decide +kernel
theorem dX8_copy_5 : decode cX8_copy 5 = .ok (.iload_n 1, 1) := by decide +kernel
theorem dX8_copy_6 : decode cX8_copy 6 = .ok (.invokestatic 83, 3) := by decide +kernel
theorem dX8_copy_9 : decode cX8_copy 9 = .ok (.ifCond .eq 10, 3) := by decide +kernel
theorem dX8_copy_12 : decode cX8_copy 12 = .ok (.iload_n 3, 1) := by decide +kernel
theorem dX8_copy_13 : decode cX8_copy 13 = .ok (.invokestatic 83, 3) := by decide +kernel
theorem dX8_copy_16 : decode cX8_copy 16 = .ok (.ifCond .ne 5, 3) := by decide +kernel
theorem dX8_copy_19 : decode cX8_copy 19 = .ok (.iconst (-1), 1) := by decide +kernel
theorem dX8_copy_20 : decode cX8_copy 20 = .ok (.ireturn, 1) := by decide +kernel
theorem dX8_copy_21 : decode cX8_copy 21 = .ok (.aload_n 0, 1) := by decide +kernel
theorem dX8_copy_22 : decode cX8_copy 22 = .ok (.getfield 13, 3) := by decide +kernel
theorem dX8_copy_25 : decode cX8_copy 25 = .ok (.iload_n 1, 1) := by decide +kernel
theorem dX8_copy_26 : decode cX8_copy 26 = .ok (.aaload, 1) := by decide +kernel
theorem dX8_copy_27 : decode cX8_copy 27 = .ok (.astore 6, 2) := by decide +kernel
theorem dX8_copy_29 : decode cX8_copy 29 = .ok (.aload_n 0, 1) := by decide +kernel
theorem dX8_copy_30 : decode cX8_copy 30 = .ok (.getfield 13, 3) := by decide +kernel
theorem dX8_copy_33 : decode cX8_copy 33 = .ok (.iload_n 3, 1) := by decide +kernel
theorem dX8_copy_34 : decode cX8_copy 34 = .ok (.aaload, 1) := by decide +kernel
theorem dX8_copy_35 : decode cX8_copy 35 = .ok (.astore 7, 2) := by decide +kernel
theorem dX8_copy_37 : decode cX8_copy 37 = .ok (.aload 6, 2) := by decide +kernel
theorem dX8_copy_39 : decode cX8_copy 39 = .ok (.getfield 301, 3) := by decide +kernel
theorem dX8_copy_42 : decode cX8_copy 42 = .ok (.ifCond .eq 11, 3) := by decide +kernel
theorem dX8_copy_45 : decode cX8_copy 45 = .ok (.aload 7, 2) := by decide +kernel
theorem dX8_copy_47 : decode cX8_copy 47 = .ok (.getfield 301, 3) := by decide +kernel
theorem dX8_copy_50 : decode cX8_copy 50 = .ok (.ifCond .ne 9, 3) := by decide +kernel
theorem dX8_copy_53 : decode cX8_copy 53 = .ok (.aload_n 0, 1) := by decide +kernel
theorem dX8_copy_54 : decode cX8_copy 54 = .ok (.iconst 1, 1) := by decide +kernel
theorem dX8_copy_55 : decode cX8_copy 55 = .ok (.invokevirtual 94, 3) := by decide +kernel
theorem dX8_copy_58 : decode cX8_copy 58 = .ok (.ireturn, 1) := by decide +kernel
theorem dX8_copy_59 : decode cX8_copy 59 = .ok (.aload 6, 2) := by decide +kernel
theorem dX8_copy_61 : decode cX8_copy 61 = .ok (.getfield 310, 3) := by decide +kernel
theorem dX8_copy_64 : decode cX8_copy 64 = .ok (.aload 7, 2) := by decide +kernel
theorem dX8_copy_66 : decode cX8_copy 66 = .ok (.getfield 310, 3) := by decide +kernel
theorem dX8_copy_69 : decode cX8_copy 69 = .ok (.if_icmp .eq 9, 3) := by decide +kernel
theorem dX8_copy_72 : decode cX8_copy 72 = .ok (.aload_n 0, 1) := by decide +kernel
theorem dX8_copy_73 : decode cX8_copy 73 = .ok (.iconst 2, 1) := by decide +kernel
theorem dX8_copy_74 : decode cX8_copy 74 = .ok (.invokevirtual 94, 3) := by decide +kernel
theorem dX8_copy_77 : decode cX8_copy 77 = .ok (.ireturn, 1) := by decide +kernel
theorem dX8_copy_78 : decode cX8_copy 78 = .ok (.aload 6, 2) := by decide +kernel
theorem dX8_copy_80 : decode cX8_copy 80 = .ok (.iload_n 2, 1) := by decide +kernel
theorem dX8_copy_81 : decode cX8_copy 81 = .ok (.iload 5, 2) := by decide +kernel
theorem dX8_copy_83 : decode cX8_copy 83 = .ok (.invokevirtual 97, 3) := by decide +kernel
theorem dX8_copy_86 : decode cX8_copy 86 = .ok (.ifCond .eq 15, 3) := by decide +kernel
theorem dX8_copy_89 : decode cX8_copy 89 = .ok (.aload 7, 2) := by decide +kernel
theorem dX8_copy_91 : decode cX8_copy 91 = .ok (.iload 4, 2) := by decide +kernel
theorem dX8_copy_93 : decode cX8_copy 93 = .ok (.iload 5, 2) := by decide +kernel
theorem dX8_copy_95 : decode cX8_copy 95 = .ok (.invokevirtual 97, 3) := by decide +kernel
theorem dX8_copy_98 : decode cX8_copy 98 = .ok (.ifCond .ne 9, 3) := by decide +kernel
theorem dX8_copy_101 : decode cX8_copy 101 = .ok (.aload_n 0, 1) := by decide +kernel
theorem dX8_copy_102 : decode cX8_copy 102 = .ok (.iconst 3, 1) := by decide +kernel
theorem dX8_copy_103 : decode cX8_copy 103 = .ok (.invokevirtual 94, 3) := by decide +kernel
theorem dX8_copy_106 : decode cX8_copy 106 = .ok (.ireturn, 1) := by decide +kernel
theorem dX8_copy_107 : decode cX8_copy 107 = .ok (.aload 6, 2) := by decide +kernel
theorem dX8_copy_109 : decode cX8_copy 109 = .ok (.getfield 305, 3) := by decide +kernel
theorem dX8_copy_112 : decode cX8_copy 112 = .ok (.iload_n 2, 1) := by decide +kernel
theorem dX8_copy_113 : decode cX8_copy 113 = .ok (.aload 7, 2) := by decide +kernel
theorem dX8_copy_115 : decode cX8_copy 115 = .ok (.getfield 305, 3) := by decide +kernel
theorem dX8_copy_118 : decode cX8_copy 118 = .ok (.iload 4, 2) := by decide +kernel
theorem dX8_copy_120 : decode cX8_copy 120 = .ok (.iload 5, 2) := by decide +kernel
theorem dX8_copy_122 : decode cX8_copy 122 = .ok (.invokestatic 313, 3) := by decide +kernel
theorem dX8_copy_125 : decode cX8_copy 125 = .ok (.iload 5, 2) := by decide +kernel
theorem dX8_copy_127 : decode cX8_copy 127 = .ok (.ireturn, 1) := by decide +kernel
set_option maxRecDepth 20000 in
theorem ggX8_tell_X1_has : GoodIn wsX8_tell wsX1_has := goodIn_r _ [8, 9, 41, 42, 43] (by decide +kernel) (by decide +kernel)
set_option maxRecDepth 20000 in
theorem gX8_tell_X1_has : GoodIn wsX8_tell (wsV RX8 142 RX1 yX1_has wsX1_has) := goodIn_app (goodIn_of _ (by decide +kernel)) ggX8_tell_X1_has
set_option maxRecDepth 20000 in
theorem ggX8_tell_X8_doubleBody : GoodIn wsX8_tell wsX8_doubleBody := goodIn_r _ [14, 15, 16, 17, 13, 18, 19, 20, 21, 22, 23, 24, 25, 26, 27, 28, 29, 30, 31, 32, 33, 34, 35, 36, 37, 38, 39, 40] (by decide +kernel) (by decide +kernel)
set_option maxRecDepth 20000 in
theorem gX8_tell_X8_doubleBody : GoodIn wsX8_tell (wsV RX8 319 RX8 yX8_doubleBody wsX8_doubleBody) := goodIn_app (goodIn_of _ (by decide +kernel)) ggX8_tell_X8_doubleBody
set_option maxRecDepth 20000 in
theorem ggX8_tell_X8_broadBody : GoodIn wsX8_tell wsX8_broadBody := goodIn_r _ [23, 15, 16, 17, 13, 18, 19, 24, 25, 26, 27, 28, 29, 30, 31, 32, 33, 34, 35, 36, 37, 38, 39, 40] (by decide +kernel) (by decide +kernel)
set_option maxRecDepth 20000 in
theorem gX8_tell_X8_broadBody : GoodIn wsX8_tell (wsV RX8 322 RX8 yX8_broadBody wsX8_broadBody) := goodIn_app (goodIn_of _ (by decide +kernel)) ggX8_tell_X8_broadBody
set_option maxRecDepth 20000 in
theorem ggX8_tell_X8_plainBody : GoodIn wsX8_tell wsX8_plainBody := goodIn_r _ [27, 15, 16, 17, 13, 18, 19, 28, 29, 30, 31, 32, 33, 34, 35, 36, 37, 38, 39, 40] (by decide +kernel) (by decide +kernel)
set_option maxRecDepth 20000 in
theorem gX8_tell_X8_plainBody : GoodIn wsX8_tell (wsV RX8 325 RX8 yX8_plainBody wsX8_plainBody) := goodIn_app (goodIn_of _ (by decide +kernel)) ggX8_tell_X8_plainBody
theorem dX8_tell_0 : decode cX8_tell 0 = .ok (.aload_n 0, 1) := by decide +kernel
theorem dX8_tell_1 : decode cX8_tell 1 = .ok (.getfield 27, 3) := by decide +kernel
theorem dX8_tell_4 : decode cX8_tell 4 = .ok (.iload_n 1, 1) := by decide +kernel
theorem dX8_tell_5 : decode cX8_tell 5 = .ok (.i2l, 1) := by decide +kernel
theorem dX8_tell_6 : decode cX8_tell 6 = .ok (.invokevirtual 142, 3) := by decide +kernel
theorem dX8_tell_9 : decode cX8_tell 9 = .ok (.ifCond .ne 5, 3) := by decide +kernel
theorem dX8_tell_12 : decode cX8_tell 12 = .ok (.iconst (-1), 1) := by decide +kernel
theorem dX8_tell_13 : decode cX8_tell 13 = .ok (.ireturn, 1) := by decide +kernel
theorem dX8_tell_14 : decode cX8_tell 14 = .ok (.aload_n 0, 1) := by decide +kernel
theorem dX8_tell_15 : decode cX8_tell 15 = .ok (.getfield 27, 3) := by decide +kernel
theorem dX8_tell_18 : decode cX8_tell 18 = .ok (.getfield 149, 3) := by decide +kernel
theorem dX8_tell_21 : decode cX8_tell 21 = .ok (.iload_n 1, 1) := by decide +kernel
theorem dX8_tell_22 : decode cX8_tell 22 = .ok (.iaload, 1) := by decide +kernel
theorem dX8_tell_23 : decode cX8_tell 23 = .ok (.istore_n 2, 1) := by decide +kernel
theorem dX8_tell_24 : decode cX8_tell 24 = .ok (.aload_n 0, 1) := by decide +kernel
theorem dX8_tell_25 : decode cX8_tell 25 = .ok (.getfield 27, 3) := by decide +kernel
theorem dX8_tell_28 : decode cX8_tell 28 = .ok (.getfield 146, 3) := by decide +kernel
theorem dX8_tell_31 : decode cX8_tell 31 = .ok (.iload_n 1, 1) := by decide +kernel
theorem dX8_tell_32 : decode cX8_tell 32 = .ok (.iaload, 1) := by decide +kernel
theorem dX8_tell_33 : decode cX8_tell 33 = .ok (.lookupswitch 39 #[(1, 33), (2, 27)], 27) := by decide +kernel
theorem dX8_tell_60 : decode cX8_tell 60 = .ok (.aload_n 0, 1) := by decide +kernel
theorem dX8_tell_61 : decode cX8_tell 61 = .ok (.iload_n 2, 1) := by decide +kernel
theorem dX8_tell_62 : decode cX8_tell 62 = .ok (.invokevirtual 319, 3) := by decide +kernel
theorem dX8_tell_65 : decode cX8_tell 65 = .ok (.ireturn, 1) := by decide +kernel
theorem dX8_tell_66 : decode cX8_tell 66 = .ok (.aload_n 0, 1) := by decide +kernel
theorem dX8_tell_67 : decode cX8_tell 67 = .ok (.iload_n 2, 1) := by decide +kernel
theorem dX8_tell_68 : decode cX8_tell 68 = .ok (.invokevirtual 322, 3) := by decide +kernel
theorem dX8_tell_71 : decode cX8_tell 71 = .ok (.ireturn, 1) := by decide +kernel
theorem dX8_tell_72 : decode cX8_tell 72 = .ok (.aload_n 0, 1) := by decide +kernel
theorem dX8_tell_73 : decode cX8_tell 73 = .ok (.iload_n 2, 1) := by decide +kernel
theorem dX8_tell_74 : decode cX8_tell 74 = .ok (.invokevirtual 325, 3) := by decide +kernel
theorem dX8_tell_77 : decode cX8_tell 77 = .ok (.ireturn, 1) := by decide +kernel
set_option maxRecDepth 20000 in
theorem ggX8_cheer_X1_has : GoodIn wsX8_cheer wsX1_has := goodIn_r _ [7, 8, 28, 29, 30] (by decide +kernel) (by decide +kernel)
set_option maxRecDepth 20000 in
theorem gX8_cheer_X1_has : GoodIn wsX8_cheer (wsV RX8 142 RX1 yX1_has wsX1_has) := goodIn_app (goodIn_of _ (by decide +kernel)) ggX8_cheer_X1_has
set_option maxRecDepth 20000 in
theorem ggX8_cheer_X8_leave : GoodIn wsX8_cheer wsX8_leave := goodIn_r _ [13, 14, 15, 16, 17, 18, 19, 20, 21, 22, 23, 24, 25, 26, 27] (by decide +kernel) (by decide +kernel)
set_option maxRecDepth 20000 in
theorem gX8_cheer_X8_leave : GoodIn wsX8_cheer (wsV RX8 328 RX8 yX8_leave wsX8_leave) := goodIn_app (goodIn_of _ (by decide +kernel)) ggX8_cheer_X8_leave
theorem dX8_cheer_0 : decode cX8_cheer 0 = .ok (.aload_n 0, 1) := by decide +kernel
theorem dX8_cheer_1 : decode cX8_cheer 1 = .ok (.getfield 27, 3) := by decide +kernel
theorem dX8_cheer_4 : decode cX8_cheer 4 = .ok (.iload_n 1, 1) := by decide +kernel
theorem dX8_cheer_5 : decode cX8_cheer 5 = .ok (.i2l, 1) := by decide +kernel
theorem dX8_cheer_6 : decode cX8_cheer 6 = .ok (.invokevirtual 142, 3) := by decide +kernel
theorem dX8_cheer_9 : decode cX8_cheer 9 = .ok (.ifCond .ne 5, 3) := by decide +kernel
theorem dX8_cheer_12 : decode cX8_cheer 12 = .ok (.iconst (-1), 1) := by decide +kernel
theorem dX8_cheer_13 : decode cX8_cheer 13 = .ok (.ireturn, 1) := by decide +kernel
theorem dX8_cheer_14 : decode cX8_cheer 14 = .ok (.aload_n 0, 1) := by decide +kernel
theorem dX8_cheer_15 : decode cX8_cheer 15 = .ok (.getfield 27, 3) := by decide +kernel
theorem dX8_cheer_18 : decode cX8_cheer 18 = .ok (.getfield 146, 3) := by decide +kernel
theorem dX8_cheer_21 : decode cX8_cheer 21 = .ok (.iload_n 1, 1) := by decide +kernel
theorem dX8_cheer_22 : decode cX8_cheer 22 = .ok (.iaload, 1) := by decide +kernel
theorem dX8_cheer_23 : decode cX8_cheer 23 = .ok (.iconst 2, 1) := by decide +kernel
theorem dX8_cheer_24 : decode cX8_cheer 24 = .ok (.if_icmp .ne 7, 3) := by decide +kernel
theorem dX8_cheer_27 : decode cX8_cheer 27 = .ok (.iconst 1, 1) := by decide +kernel
theorem dX8_cheer_28 : decode cX8_cheer 28 = .ok (.goto 4, 3) := by decide +kernel
theorem dX8_cheer_31 : decode cX8_cheer 31 = .ok (.iconst 0, 1) := by decide +kernel
theorem dX8_cheer_32 : decode cX8_cheer 32 = .ok (.istore_n 2, 1) := by decide +kernel
theorem dX8_cheer_33 : decode cX8_cheer 33 = .ok (.aload_n 0, 1) := by decide +kernel
theorem dX8_cheer_34 : decode cX8_cheer 34 = .ok (.iload_n 2, 1) := by decide +kernel
theorem dX8_cheer_35 : decode cX8_cheer 35 = .ok (.ifCond .eq 7, 3) := by decide +kernel
theorem dX8_cheer_38 : decode cX8_cheer 38 = .ok (.iconst 5, 1) := by decide +kernel
theorem dX8_cheer_39 : decode cX8_cheer 39 = .ok (.goto 4, 3) := by decide +kernel
theorem dX8_cheer_42 : decode cX8_cheer 42 = .ok (.iconst 4, 1) := by decide +kernel
theorem dX8_cheer_43 : decode cX8_cheer 43 = .ok (.invokevirtual 328, 3) := by decide +kernel
theorem dX8_cheer_46 : decode cX8_cheer 46 = .ok (.iload_n 2, 1) := by decide +kernel
theorem dX8_cheer_47 : decode cX8_cheer 47 = .ok (.ifCond .eq 8, 3) := by decide +kernel
theorem dX8_cheer_50 : decode cX8_cheer 50 = .ok (.bipush 60, 2) := by decide +kernel
theorem dX8_cheer_52 : decode cX8_cheer 52 = .ok (.goto 4, 3) := by decide +kernel
theorem dX8_cheer_55 : decode cX8_cheer 55 = .ok (.iload_n 1, 1) := by decide +kernel
theorem dX8_cheer_56 : decode cX8_cheer 56 = .ok (.ireturn, 1) := by decide +kernel
set_option maxRecDepth 20000 in
theorem ggX8_as_X1_has : GoodIn wsX8_as wsX1_has := goodIn_r _ [8, 9, 28, 29, 30] (by decide +kernel) (by decide +kernel)
set_option maxRecDepth 20000 in
theorem gX8_as_X1_has : GoodIn wsX8_as (wsV RX8 142 RX1 yX1_has wsX1_has) := goodIn_app (goodIn_of _ (by decide +kernel)) ggX8_as_X1_has
set_option maxRecDepth 20000 in
theorem ggX8_as_X8_failed : GoodIn wsX8_as wsX8_failed := goodIn_r _ [14, 1, 15, 16, 17, 18, 19, 20, 21, 22, 23, 24, 25, 26, 27] (by decide +kernel) (by decide +kernel)
set_option maxRecDepth 20000 in
theorem gX8_as_X8_failed : GoodIn wsX8_as (wsV RX8 94 RX8 yX8_failed wsX8_failed) := goodIn_app (goodIn_of _ (by decide +kernel)) ggX8_as_X8_failed
theorem dX8_as_0 : decode cX8_as 0 = .ok (.aload_n 0, 1) := by decide +kernel
theorem dX8_as_1 : decode cX8_as 1 = .ok (.iconst 0, 1) := by decide +kernel
theorem dX8_as_2 : decode cX8_as 2 = .ok (.putfield 79, 3) := by decide +kernel
theorem dX8_as_5 : decode cX8_as 5 = .ok (.aload_n 0, 1) := by decide +kernel
theorem dX8_as_6 : decode cX8_as 6 = .ok (.getfield 27, 3) := by decide +kernel
theorem dX8_as_9 : decode cX8_as 9 = .ok (.iload_n 1, 1) := by decide +kernel
theorem dX8_as_10 : decode cX8_as 10 = .ok (.i2l, 1) := by decide +kernel
theorem dX8_as_11 : decode cX8_as 11 = .ok (.invokevirtual 142, 3) := by decide +kernel
theorem dX8_as_14 : decode cX8_as 14 = .ok (.ifCond .ne 5, 3) := by decide +kernel
theorem dX8_as_17 : decode cX8_as 17 = .ok (.iconst (-1), 1) := by decide +kernel
theorem dX8_as_18 : decode cX8_as 18 = .ok (.ireturn, 1) := by decide +kernel
theorem dX8_as_19 : decode cX8_as 19 = .ok (.iload_n 2, 1) := by decide +kernel
theorem dX8_as_20 : decode cX8_as 20 = .ok (.ifCond .lt 8, 3) := by decide +kernel
theorem dX8_as_23 : decode cX8_as 23 = .ok (.iload_n 2, 1) := by decide +kernel
theorem dX8_as_24 : decode cX8_as 24 = .ok (.iconst 2, 1) := by decide +kernel
theorem dX8_as_25 : decode cX8_as 25 = .ok (.if_icmp .le 6, 3) := by decide +kernel
theorem dX8_as_28 : decode cX8_as 28 = .ok (.bipush (-2), 2) := by decide +kernel
theorem dX8_as_30 : decode cX8_as 30 = .ok (.ireturn, 1) := by decide +kernel
theorem dX8_as_31 : decode cX8_as 31 = .ok (.aload_n 0, 1) := by decide +kernel
theorem dX8_as_32 : decode cX8_as 32 = .ok (.getfield 27, 3) := by decide +kernel
theorem dX8_as_35 : decode cX8_as 35 = .ok (.getfield 146, 3) := by decide +kernel
theorem dX8_as_38 : decode cX8_as 38 = .ok (.iload_n 1, 1) := by decide +kernel
theorem dX8_as_39 : decode cX8_as 39 = .ok (.iaload, 1) := by decide +kernel
theorem dX8_as_40 : decode cX8_as 40 = .ok (.iload_n 2, 1) := by decide +kernel
theorem dX8_as_41 : decode cX8_as 41 = .ok (.if_icmp .ge 11, 3) := by decide +kernel
theorem dX8_as_44 : decode cX8_as 44 = .ok (.aload_n 0, 1) := by decide +kernel
theorem dX8_as_45 : decode cX8_as 45 = .ok (.iconst 2, 1) := by decide +kernel
theorem dX8_as_46 : decode cX8_as 46 = .ok (.invokevirtual 94, 3) := by decide +kernel
theorem dX8_as_49 : decode cX8_as 49 = .ok (.goto 4, 3) := by decide +kernel
theorem dX8_as_52 : decode cX8_as 52 = .ok (.iconst 1, 1) := by decide +kernel
theorem dX8_as_53 : decode cX8_as 53 = .ok (.ireturn, 1) := by decide +kernel
theorem dX8_trace_0 : decode cX8_trace 0 = .ok (.aload_n 0, 1) := by decide +kernel
theorem dX8_trace_1 : decode cX8_trace 1 = .ok (.getfield 75, 3) := by decide +kernel
theorem dX8_trace_4 : decode cX8_trace 4 = .ok (.ireturn, 1) := by decide +kernel
theorem dX8_fault_0 : decode cX8_fault 0 = .ok (.aload_n 0, 1) := by decide +kernel
theorem dX8_fault_1 : decode cX8_fault 1 = .ok (.getfield 79, 3) := by decide +kernel
theorem dX8_fault_4 : decode cX8_fault 4 = .ok (.ireturn, 1) := by decide +kernel
set_option maxRecDepth 20000 in
theorem ggX8_many_X6_count : GoodIn wsX8_many wsX6_count := goodIn_r _ [14, 15, 16, 17, 13, 18, 19, 20, 45, 46] (by decide +kernel) (by decide +kernel)
set_option maxRecDepth 20000 in
theorem gX8_many_X6_count : GoodIn wsX8_many (wsV RX8 332 RX6 yX6_count wsX6_count) := goodIn_app (goodIn_of _ (by decide +kernel)) ggX8_many_X6_count
theorem dX8_many_0 : decode cX8_many 0 = .ok (.iload_n 1, 1) := by decide +kernel
theorem dX8_many_1 : decode cX8_many 1 = .ok (.tableswitch 75 0 4 #[35, 43, 51, 59, 67], 35) := by decide +kernel
theorem dX8_many_36 : decode cX8_many 36 = .ok (.aload_n 0, 1) := by decide +kernel
theorem dX8_many_37 : decode cX8_many 37 = .ok (.getfield 51, 3) := by decide +kernel
theorem dX8_many_40 : decode cX8_many 40 = .ok (.getfield 108, 3) := by decide +kernel
theorem dX8_many_43 : decode cX8_many 43 = .ok (.ireturn, 1) := by decide +kernel
theorem dX8_many_44 : decode cX8_many 44 = .ok (.aload_n 0, 1) := by decide +kernel
theorem dX8_many_45 : decode cX8_many 45 = .ok (.getfield 27, 3) := by decide +kernel
theorem dX8_many_48 : decode cX8_many 48 = .ok (.getfield 331, 3) := by decide +kernel
theorem dX8_many_51 : decode cX8_many 51 = .ok (.ireturn, 1) := by decide +kernel
theorem dX8_many_52 : decode cX8_many 52 = .ok (.aload_n 0, 1) := by decide +kernel
theorem dX8_many_53 : decode cX8_many 53 = .ok (.getfield 37, 3) := by decide +kernel
theorem dX8_many_56 : decode cX8_many 56 = .ok (.getfield 135, 3) := by decide +kernel
theorem dX8_many_59 : decode cX8_many 59 = .ok (.ireturn, 1) := by decide +kernel
theorem dX8_many_60 : decode cX8_many 60 = .ok (.aload_n 0, 1) := by decide +kernel
theorem dX8_many_61 : decode cX8_many 61 = .ok (.getfield 64, 3) := by decide +kernel
theorem dX8_many_64 : decode cX8_many 64 = .ok (.invokevirtual 332, 3) := by decide +kernel
theorem dX8_many_67 : decode cX8_many 67 = .ok (.ireturn, 1) := by decide +kernel
theorem dX8_many_68 : decode cX8_many 68 = .ok (.aload_n 0, 1) := by decide +kernel
theorem dX8_many_69 : decode cX8_many 69 = .ok (.getfield 71, 3) := by decide +kernel
theorem dX8_many_72 : decode cX8_many 72 = .ok (.getfield 131, 3) := by decide +kernel
theorem dX8_many_75 : decode cX8_many 75 = .ok (.ireturn, 1) := by decide +kernel
theorem dX8_many_76 : decode cX8_many 76 = .ok (.bipush (-2), 2) := by decide +kernel
theorem dX8_many_78 : decode cX8_many 78 = .ok (.ireturn, 1) := by decide +kernel
set_option maxRecDepth 20000 in
theorem ggX8_plainBody_X8_leave : GoodIn wsX8_plainBody wsX8_leave := goodIn_r _ [5, 6, 7, 8, 9, 10, 11, 12, 13, 14, 15, 16, 17, 18, 19] (by decide +kernel) (by decide +kernel)
set_option maxRecDepth 20000 in
theorem gX8_plainBody_X8_leave : GoodIn wsX8_plainBody (wsV RX8 328 RX8 yX8_leave wsX8_leave) := goodIn_app (goodIn_of _ (by decide +kernel)) ggX8_plainBody_X8_leave
theorem dX8_plainBody_0 : decode cX8_plainBody 0 = .ok (.aload_n 0, 1) := by decide +kernel
theorem dX8_plainBody_1 : decode cX8_plainBody 1 = .ok (.iconst 1, 1) := by decide +kernel
theorem dX8_plainBody_2 : decode cX8_plainBody 2 = .ok (.invokevirtual 328, 3) := by decide +kernel
theorem dX8_plainBody_5 : decode cX8_plainBody 5 = .ok (.iload_n 1, 1) := by decide +kernel
theorem dX8_plainBody_6 : decode cX8_plainBody 6 = .ok (.ireturn, 1) := by decide +kernel
set_option maxRecDepth 20000 in
theorem ggX8_broadBody_X8_leave : GoodIn wsX8_broadBody wsX8_leave := goodIn_r _ [5, 6, 11, 12, 13, 14, 15, 16, 17, 18, 19, 20, 21, 22, 23] (by decide +kernel) (by decide +kernel)
set_option maxRecDepth 20000 in
theorem gX8_broadBody_X8_leave : GoodIn wsX8_broadBody (wsV RX8 328 RX8 yX8_leave wsX8_leave) := goodIn_app (goodIn_of _ (by decide +kernel)) ggX8_broadBody_X8_leave
set_option maxRecDepth 20000 in
theorem ggX8_broadBody_X8_plainBody : GoodIn wsX8_broadBody wsX8_plainBody := goodIn_r _ [10, 1, 2, 3, 4, 5, 6, 11, 12, 13, 14, 15, 16, 17, 18, 19, 20, 21, 22, 23] (by decide +kernel) (by decide +kernel)
set_option maxRecDepth 20000 in
theorem gX8_broadBody_X8_plainBody : GoodIn wsX8_broadBody (wsV RX8 325 RX8 yX8_plainBody wsX8_plainBody) := goodIn_app (goodIn_of _ (by decide +kernel)) ggX8_broadBody_X8_plainBody
theorem dX8_broadBody_0 : decode cX8_broadBody 0 = .ok (.aload_n 0, 1) := by decide +kernel
theorem dX8_broadBody_1 : decode cX8_broadBody 1 = .ok (.iconst 2, 1) := by decide +kernel
theorem dX8_broadBody_2 : decode cX8_broadBody 2 = .ok (.invokevirtual 328, 3) := by decide +kernel
theorem dX8_broadBody_5 : decode cX8_broadBody 5 = .ok (.aload_n 0, 1) := by decide +kernel
theorem dX8_broadBody_6 : decode cX8_broadBody 6 = .ok (.iload_n 1, 1) := by decide +kernel
theorem dX8_broadBody_7 : decode cX8_broadBody 7 = .ok (.invokevirtual 325, 3) := by decide +kernel
theorem dX8_broadBody_10 : decode cX8_broadBody 10 = .ok (.bipush 100, 2) := by decide +kernel
theorem dX8_broadBody_12 : decode cX8_broadBody 12 = .ok (.iadd, 1) := by decide +kernel
theorem dX8_broadBody_13 : decode cX8_broadBody 13 = .ok (.ireturn, 1) := by decide +kernel
set_option maxRecDepth 20000 in
theorem ggX8_doubleBody_X8_leave : GoodIn wsX8_doubleBody wsX8_leave := goodIn_r _ [5, 6, 15, 16, 17, 18, 19, 20, 21, 22, 23, 24, 25, 26, 27] (by decide +kernel) (by decide +kernel)
set_option maxRecDepth 20000 in
theorem gX8_doubleBody_X8_leave : GoodIn wsX8_doubleBody (wsV RX8 328 RX8 yX8_leave wsX8_leave) := goodIn_app (goodIn_of _ (by decide +kernel)) ggX8_doubleBody_X8_leave
set_option maxRecDepth 20000 in
theorem ggX8_doubleBody_X8_broadBody : GoodIn wsX8_doubleBody wsX8_broadBody := goodIn_r _ [10, 1, 2, 3, 4, 5, 6, 11, 12, 13, 14, 15, 16, 17, 18, 19, 20, 21, 22, 23, 24, 25, 26, 27] (by decide +kernel) (by decide +kernel)
set_option maxRecDepth 20000 in
theorem gX8_doubleBody_X8_broadBody : GoodIn wsX8_doubleBody (wsV RX8 322 RX8 yX8_broadBody wsX8_broadBody) := goodIn_app (goodIn_of _ (by decide +kernel)) ggX8_doubleBody_X8_broadBody
set_option maxRecDepth 20000 in
theorem ggX8_doubleBody_X8_plainBody : GoodIn wsX8_doubleBody wsX8_plainBody := goodIn_r _ [14, 1, 2, 3, 4, 5, 6, 15, 16, 17, 18, 19, 20, 21, 22, 23, 24, 25, 26, 27] (by decide +kernel) (by decide +kernel)
set_option maxRecDepth 20000 in
theorem gX8_doubleBody_X8_plainBody : GoodIn wsX8_doubleBody (wsV RX8 325 RX8 yX8_plainBody wsX8_plainBody) := goodIn_app (goodIn_of _ (by decide +kernel)) ggX8_doubleBody_X8_plainBody
theorem dX8_doubleBody_0 : decode cX8_doubleBody 0 = .ok (.aload_n 0, 1) := by decide +kernel
theorem dX8_doubleBody_1 : decode cX8_doubleBody 1 = .ok (.iconst 3, 1) := by decide +kernel
theorem dX8_doubleBody_2 : decode cX8_doubleBody 2 = .ok (.invokevirtual 328, 3) := by decide +kernel
theorem dX8_doubleBody_5 : decode cX8_doubleBody 5 = .ok (.aload_n 0, 1) := by decide +kernel
theorem dX8_doubleBody_6 : decode cX8_doubleBody 6 = .ok (.iload_n 1, 1) := by decide +kernel
theorem dX8_doubleBody_7 : decode cX8_doubleBody 7 = .ok (.invokevirtual 322, 3) := by decide +kernel
theorem dX8_doubleBody_10 : decode cX8_doubleBody 10 = .ok (.istore_n 2, 1) := by decide +kernel
theorem dX8_doubleBody_11 : decode cX8_doubleBody 11 = .ok (.iload_n 2, 1) := by decide +kernel
theorem dX8_doubleBody_12 : decode cX8_doubleBody 12 = .ok (.aload_n 0, 1) := by decide +kernel
theorem dX8_doubleBody_13 : decode cX8_doubleBody 13 = .ok (.iload_n 1, 1) := by decide +kernel
theorem dX8_doubleBody_14 : decode cX8_doubleBody 14 = .ok (.invokevirtual 325, 3) := by decide +kernel
theorem dX8_doubleBody_17 : decode cX8_doubleBody 17 = .ok (.iadd, 1) := by decide +kernel
theorem dX8_doubleBody_18 : decode cX8_doubleBody 18 = .ok (.ireturn, 1) := by decide +kernel
theorem dX8_leave_0 : decode cX8_leave 0 = .ok (.aload_n 0, 1) := by decide +kernel
theorem dX8_leave_1 : decode cX8_leave 1 = .ok (.bipush 31, 2) := by decide +kernel
theorem dX8_leave_3 : decode cX8_leave 3 = .ok (.aload_n 0, 1) := by decide +kernel
theorem dX8_leave_4 : decode cX8_leave 4 = .ok (.getfield 75, 3) := by decide +kernel
theorem dX8_leave_7 : decode cX8_leave 7 = .ok (.imul, 1) := by decide +kernel
theorem dX8_leave_8 : decode cX8_leave 8 = .ok (.iload_n 1, 1) := by decide +kernel
theorem dX8_leave_9 : decode cX8_leave 9 = .ok (.iadd, 1) := by decide +kernel
theorem dX8_leave_10 : decode cX8_leave 10 = .ok (.putfield 75, 3) := by decide +kernel
theorem dX8_leave_13 : decode cX8_leave 13 = .ok (.return_, 1) := by decide +kernel
theorem dX8_isSheet_0 : decode cX8_isSheet 0 = .ok (.iload_n 0, 1) := by decide +kernel
theorem dX8_isSheet_1 : decode cX8_isSheet 1 = .ok (.ifCond .lt 12, 3) := by decide +kernel
theorem dX8_isSheet_4 : decode cX8_isSheet 4 = .ok (.iload_n 0, 1) := by decide +kernel
theorem dX8_isSheet_5 : decode cX8_isSheet 5 = .ok (.iconst 4, 1) := by decide +kernel
theorem dX8_isSheet_6 : decode cX8_isSheet 6 = .ok (.if_icmp .ge 7, 3) := by decide +kernel
theorem dX8_isSheet_9 : decode cX8_isSheet 9 = .ok (.iconst 1, 1) := by decide +kernel
theorem dX8_isSheet_10 : decode cX8_isSheet 10 = .ok (.goto 4, 3) := by decide +kernel
theorem dX8_isSheet_13 : decode cX8_isSheet 13 = .ok (.iconst 0, 1) := by decide +kernel
theorem dX8_isSheet_14 : decode cX8_isSheet 14 = .ok (.ireturn, 1) := by decide +kernel
theorem dX8_isLane_0 : decode cX8_isLane 0 = .ok (.iload_n 0, 1) := by decide +kernel
theorem dX8_isLane_1 : decode cX8_isLane 1 = .ok (.ifCond .lt 12, 3) := by decide +kernel
theorem dX8_isLane_4 : decode cX8_isLane 4 = .ok (.iload_n 0, 1) := by decide +kernel
theorem dX8_isLane_5 : decode cX8_isLane 5 = .ok (.iconst 2, 1) := by decide +kernel
theorem dX8_isLane_6 : decode cX8_isLane 6 = .ok (.if_icmp .gt 7, 3) := by decide +kernel
theorem dX8_isLane_9 : decode cX8_isLane 9 = .ok (.iconst 1, 1) := by decide +kernel
theorem dX8_isLane_10 : decode cX8_isLane 10 = .ok (.goto 4, 3) := by decide +kernel
theorem dX8_isLane_13 : decode cX8_isLane 13 = .ok (.iconst 0, 1) := by decide +kernel
theorem dX8_isLane_14 : decode cX8_isLane 14 = .ok (.ireturn, 1) := by decide +kernel
set_option maxRecDepth 20000 in
theorem ggX8_refusedRun_X3_has : GoodIn wsX8_refusedRun wsX3_has := goodIn_r _ [6, 7, 21, 22, 23] (by decide +kernel) (by decide +kernel)
set_option maxRecDepth 20000 in
theorem gX8_refusedRun_X3_has : GoodIn wsX8_refusedRun (wsV RX8 159 RX3 yX3_has wsX3_has) := goodIn_app (goodIn_of _ (by decide +kernel)) ggX8_refusedRun_X3_has
theorem dX8_refusedRun_0 : decode cX8_refusedRun 0 = .ok (.aload_n 0, 1) := by decide +kernel
theorem dX8_refusedRun_1 : decode cX8_refusedRun 1 = .ok (.getfield 51, 3) := by decide +kernel
theorem dX8_refusedRun_4 : decode cX8_refusedRun 4 = .ok (.iload_n 1, 1) := by decide +kernel
theorem dX8_refusedRun_5 : decode cX8_refusedRun 5 = .ok (.invokevirtual 159, 3) := by decide +kernel
theorem dX8_refusedRun_8 : decode cX8_refusedRun 8 = .ok (.ifCond .eq 14, 3) := by decide +kernel
theorem dX8_refusedRun_11 : decode cX8_refusedRun 11 = .ok (.aload_n 0, 1) := by decide +kernel
theorem dX8_refusedRun_12 : decode cX8_refusedRun 12 = .ok (.getfield 51, 3) := by decide +kernel
theorem dX8_refusedRun_15 : decode cX8_refusedRun 15 = .ok (.iload_n 2, 1) := by decide +kernel
theorem dX8_refusedRun_16 : decode cX8_refusedRun 16 = .ok (.invokevirtual 159, 3) := by decide +kernel
theorem dX8_refusedRun_19 : decode cX8_refusedRun 19 = .ok (.ifCond .ne 5, 3) := by decide +kernel
theorem dX8_refusedRun_22 : decode cX8_refusedRun 22 = .ok (.iconst (-1), 1) := by decide +kernel
theorem dX8_refusedRun_23 : decode cX8_refusedRun 23 = .ok (.ireturn, 1) := by decide +kernel
theorem dX8_refusedRun_24 : decode cX8_refusedRun 24 = .ok (.iload_n 2, 1) := by decide +kernel
theorem dX8_refusedRun_25 : decode cX8_refusedRun 25 = .ok (.iload_n 1, 1) := by decide +kernel
theorem dX8_refusedRun_26 : decode cX8_refusedRun 26 = .ok (.if_icmp .ge 8, 3) := by decide +kernel
theorem dX8_refusedRun_29 : decode cX8_refusedRun 29 = .ok (.bipush (-2), 2) := by decide +kernel
theorem dX8_refusedRun_31 : decode cX8_refusedRun 31 = .ok (.goto 4, 3) := by decide +kernel
theorem dX8_refusedRun_34 : decode cX8_refusedRun 34 = .ok (.iconst 0, 1) := by decide +kernel
theorem dX8_refusedRun_35 : decode cX8_refusedRun 35 = .ok (.ireturn, 1) := by decide +kernel
set_option maxRecDepth 20000 in
theorem ggX8_refusedAim_X8_refusedRun : GoodIn wsX8_refusedAim wsX8_refusedRun := goodIn_r _ [7, 8, 9, 10, 11, 12, 13, 14, 15, 16, 17, 18, 19, 20, 21, 22, 23, 24, 25, 26, 27, 28, 29, 30] (by decide +kernel) (by decide +kernel)
set_option maxRecDepth 20000 in
theorem gX8_refusedAim_X8_refusedRun : GoodIn wsX8_refusedAim (wsV RX8 174 RX8 yX8_refusedRun wsX8_refusedRun) := goodIn_app (goodIn_of _ (by decide +kernel)) ggX8_refusedAim_X8_refusedRun
theorem dX8_refusedAim_0 : decode cX8_refusedAim 0 = .ok (.aload_n 0, 1) := by decide +kernel
theorem dX8_refusedAim_1 : decode cX8_refusedAim 1 = .ok (.iload_n 1, 1) := by decide +kernel
theorem dX8_refusedAim_2 : decode cX8_refusedAim 2 = .ok (.iload_n 2, 1) := by decide +kernel
theorem dX8_refusedAim_3 : decode cX8_refusedAim 3 = .ok (.invokevirtual 174, 3) := by decide +kernel
theorem dX8_refusedAim_6 : decode cX8_refusedAim 6 = .ok (.istore 5, 2) := by decide +kernel
theorem dX8_refusedAim_8 : decode cX8_refusedAim 8 = .ok (.iload 5, 2) := by decide +kernel
theorem dX8_refusedAim_10 : decode cX8_refusedAim 10 = .ok (.ifCond .eq 6, 3) := by decide +kernel
theorem dX8_refusedAim_13 : decode cX8_refusedAim 13 = .ok (.iload 5, 2) := by decide +kernel
theorem dX8_refusedAim_15 : decode cX8_refusedAim 15 = .ok (.ireturn, 1) := by decide +kernel
theorem dX8_refusedAim_16 : decode cX8_refusedAim 16 = .ok (.lload_n 3, 1) := by decide +kernel
theorem dX8_refusedAim_17 : decode cX8_refusedAim 17 = .ok (.ldc2_w 335, 3) := by decide +kernel
theorem dX8_refusedAim_20 : decode cX8_refusedAim 20 = .ok (.lcmp, 1) := by decide +kernel
theorem dX8_refusedAim_21 : decode cX8_refusedAim 21 = .ok (.ifCond .lt 11, 3) := by decide +kernel
theorem dX8_refusedAim_24 : decode cX8_refusedAim 24 = .ok (.lload_n 3, 1) := by decide +kernel
theorem dX8_refusedAim_25 : decode cX8_refusedAim 25 = .ok (.ldc2_w 337, 3) := by decide +kernel
theorem dX8_refusedAim_28 : decode cX8_refusedAim 28 = .ok (.lcmp, 1) := by decide +kernel
theorem dX8_refusedAim_29 : decode cX8_refusedAim 29 = .ok (.ifCond .le 8, 3) := by decide +kernel
theorem dX8_refusedAim_32 : decode cX8_refusedAim 32 = .ok (.bipush (-2), 2) := by decide +kernel
theorem dX8_refusedAim_34 : decode cX8_refusedAim 34 = .ok (.goto 4, 3) := by decide +kernel
theorem dX8_refusedAim_37 : decode cX8_refusedAim 37 = .ok (.iconst 0, 1) := by decide +kernel
theorem dX8_refusedAim_38 : decode cX8_refusedAim 38 = .ok (.ireturn, 1) := by decide +kernel
theorem dX8_failed_0 : decode cX8_failed 0 = .ok (.aload_n 0, 1) := by decide +kernel
theorem dX8_failed_1 : decode cX8_failed 1 = .ok (.iload_n 1, 1) := by decide +kernel
theorem dX8_failed_2 : decode cX8_failed 2 = .ok (.putfield 79, 3) := by decide +kernel
theorem dX8_failed_5 : decode cX8_failed 5 = .ok (.bipush (-10), 2) := by decide +kernel
theorem dX8_failed_7 : decode cX8_failed 7 = .ok (.iload_n 1, 1) := by decide +kernel
theorem dX8_failed_8 : decode cX8_failed 8 = .ok (.isub, 1) := by decide +kernel
theorem dX8_failed_9 : decode cX8_failed 9 = .ok (.ireturn, 1) := by decide +kernel
theorem dX8_lost_0 : decode cX8_lost 0 = .ok (.aload_n 0, 1) := by decide +kernel
theorem dX8_lost_1 : decode cX8_lost 1 = .ok (.iload_n 1, 1) := by decide +kernel
theorem dX8_lost_2 : decode cX8_lost 2 = .ok (.putfield 79, 3) := by decide +kernel
theorem dX8_lost_5 : decode cX8_lost 5 = .ok (.ldc2_w 161, 3) := by decide +kernel
theorem dX8_lost_8 : decode cX8_lost 8 = .ok (.lreturn, 1) := by decide +kernel
theorem dX8_sum_0 : decode cX8_sum 0 = .ok (.lconst 0, 1) := by decide +kernel
theorem dX8_sum_1 : decode cX8_sum 1 = .ok (.lstore_n 3, 1) := by decide +kernel
theorem dX8_sum_2 : decode cX8_sum 2 = .ok (.iload_n 1, 1) := by decide +kernel
theorem dX8_sum_3 : decode cX8_sum 3 = .ok (.istore 5, 2) := by decide +kernel
theorem dX8_sum_5 : decode cX8_sum 5 = .ok (.iload 5, 2) := by decide +kernel
theorem dX8_sum_7 : decode cX8_sum 7 = .ok (.iload_n 2, 1) := by decide +kernel
theorem dX8_sum_8 : decode cX8_sum 8 = .ok (.if_icmp .gt 16, 3) := by decide +kernel
theorem dX8_sum_11 : decode cX8_sum 11 = .ok (.lload_n 3, 1) := by decide +kernel
theorem dX8_sum_12 : decode cX8_sum 12 = .ok (.aload_n 0, 1) := by decide +kernel
theorem dX8_sum_13 : decode cX8_sum 13 = .ok (.iload 5, 2) := by decide +kernel
theorem dX8_sum_15 : decode cX8_sum 15 = .ok (.laload, 1) := by decide +kernel
theorem dX8_sum_16 : decode cX8_sum 16 = .ok (.ladd, 1) := by decide +kernel
theorem dX8_sum_17 : decode cX8_sum 17 = .ok (.lstore_n 3, 1) := by decide +kernel
theorem dX8_sum_18 : decode cX8_sum 18 = .ok (.iinc 5 1, 3) := by decide +kernel
theorem dX8_sum_21 : decode cX8_sum 21 = .ok (.goto (-16), 3) := by decide +kernel
theorem dX8_sum_24 : decode cX8_sum 24 = .ok (.lload_n 3, 1) := by decide +kernel
theorem dX8_sum_25 : decode cX8_sum 25 = .ok (.lreturn, 1) := by decide +kernel
theorem dX8_greatest_0 : decode cX8_greatest 0 = .ok (.aload_n 0, 1) := by decide +kernel
theorem dX8_greatest_1 : decode cX8_greatest 1 = .ok (.iload_n 1, 1) := by decide +kernel
theorem dX8_greatest_2 : decode cX8_greatest 2 = .ok (.laload, 1) := by decide +kernel
theorem dX8_greatest_3 : decode cX8_greatest 3 = .ok (.lstore_n 3, 1) := by decide +kernel
theorem dX8_greatest_4 : decode cX8_greatest 4 = .ok (.iload_n 1, 1) := by decide +kernel
theorem dX8_greatest_5 : decode cX8_greatest 5 = .ok (.iconst 1, 1) := by decide +kernel
theorem dX8_greatest_6 : decode cX8_greatest 6 = .ok (.iadd, 1) := by decide +kernel
theorem dX8_greatest_7 : decode cX8_greatest 7 = .ok (.istore 5, 2) := by decide +kernel
theorem dX8_greatest_9 : decode cX8_greatest 9 = .ok (.iload 5, 2) := by decide +kernel
theorem dX8_greatest_11 : decode cX8_greatest 11 = .ok (.iload_n 2, 1) := by decide +kernel
theorem dX8_greatest_12 : decode cX8_greatest 12 = .ok (.if_icmp .gt 18, 3) := by decide +kernel
theorem dX8_greatest_15 : decode cX8_greatest 15 = .ok (.lload_n 3, 1) := by decide +kernel
theorem dX8_greatest_16 : decode cX8_greatest 16 = .ok (.aload_n 0, 1) := by decide +kernel
theorem dX8_greatest_17 : decode cX8_greatest 17 = .ok (.iload 5, 2) := by decide +kernel
theorem dX8_greatest_19 : decode cX8_greatest 19 = .ok (.laload, 1) := by decide +kernel
theorem dX8_greatest_20 : decode cX8_greatest 20 = .ok (.invokestatic 339, 3) := by decide +kernel
theorem dX8_greatest_23 : decode cX8_greatest 23 = .ok (.lstore_n 3, 1) := by decide +kernel
theorem dX8_greatest_24 : decode cX8_greatest 24 = .ok (.iinc 5 1, 3) := by decide +kernel
theorem dX8_greatest_27 : decode cX8_greatest 27 = .ok (.goto (-18), 3) := by decide +kernel
theorem dX8_greatest_30 : decode cX8_greatest 30 = .ok (.lload_n 3, 1) := by decide +kernel
theorem dX8_greatest_31 : decode cX8_greatest 31 = .ok (.lreturn, 1) := by decide +kernel
theorem dX8_least_0 : decode cX8_least 0 = .ok (.aload_n 0, 1) := by decide +kernel
theorem dX8_least_1 : decode cX8_least 1 = .ok (.iload_n 1, 1) := by decide +kernel
theorem dX8_least_2 : decode cX8_least 2 = .ok (.laload, 1) := by decide +kernel
theorem dX8_least_3 : decode cX8_least 3 = .ok (.lstore_n 3, 1) := by decide +kernel
theorem dX8_least_4 : decode cX8_least 4 = .ok (.iload_n 1, 1) := by decide +kernel
theorem dX8_least_5 : decode cX8_least 5 = .ok (.iconst 1, 1) := by decide +kernel
theorem dX8_least_6 : decode cX8_least 6 = .ok (.iadd, 1) := by decide +kernel
theorem dX8_least_7 : decode cX8_least 7 = .ok (.istore 5, 2) := by decide +kernel
theorem dX8_least_9 : decode cX8_least 9 = .ok (.iload 5, 2) := by decide +kernel
theorem dX8_least_11 : decode cX8_least 11 = .ok (.iload_n 2, 1) := by decide +kernel
theorem dX8_least_12 : decode cX8_least 12 = .ok (.if_icmp .gt 18, 3) := by decide +kernel
theorem dX8_least_15 : decode cX8_least 15 = .ok (.lload_n 3, 1) := by decide +kernel
theorem dX8_least_16 : decode cX8_least 16 = .ok (.aload_n 0, 1) := by decide +kernel
theorem dX8_least_17 : decode cX8_least 17 = .ok (.iload 5, 2) := by decide +kernel
theorem dX8_least_19 : decode cX8_least 19 = .ok (.laload, 1) := by decide +kernel
theorem dX8_least_20 : decode cX8_least 20 = .ok (.invokestatic 345, 3) := by decide +kernel
theorem dX8_least_23 : decode cX8_least 23 = .ok (.lstore_n 3, 1) := by decide +kernel
theorem dX8_least_24 : decode cX8_least 24 = .ok (.iinc 5 1, 3) := by decide +kernel
theorem dX8_least_27 : decode cX8_least 27 = .ok (.goto (-18), 3) := by decide +kernel
theorem dX8_least_30 : decode cX8_least 30 = .ok (.lload_n 3, 1) := by decide +kernel
theorem dX8_least_31 : decode cX8_least 31 = .ok (.lreturn, 1) := by decide +kernel
set_option maxRecDepth 20000 in
theorem ggX8_second_X8_greatest : GoodIn wsX8_second wsX8_greatest := goodIn_r _ [9, 2, 3, 4, 5] (by decide +kernel) (by decide +kernel)
set_option maxRecDepth 20000 in
theorem gX8_second_X8_greatest : GoodIn wsX8_second (va_wsS RX8 235 yX8_greatest wsX8_greatest) := goodIn_app (goodIn_of _ (by decide +kernel)) ggX8_second_X8_greatest
theorem dX8_second_0 : decode cX8_second 0 = .ok (.aload_n 0, 1) := by decide +kernel
theorem dX8_second_1 : decode cX8_second 1 = .ok (.iload_n 1, 1) := by decide +kernel
theorem dX8_second_2 : decode cX8_second 2 = .ok (.iload_n 2, 1) := by decide +kernel
theorem dX8_second_3 : decode cX8_second 3 = .ok (.invokestatic 235, 3) := by decide +kernel
theorem dX8_second_6 : decode cX8_second 6 = .ok (.lstore_n 3, 1) := by decide +kernel
theorem dX8_second_7 : decode cX8_second 7 = .ok (.ldc2_w 161, 3) := by decide +kernel
theorem dX8_second_10 : decode cX8_second 10 = .ok (.lstore 5, 2) := by decide +kernel
theorem dX8_second_12 : decode cX8_second 12 = .ok (.iload_n 1, 1) := by decide +kernel
theorem dX8_second_13 : decode cX8_second 13 = .ok (.istore 7, 2) := by decide +kernel
theorem dX8_second_15 : decode cX8_second 15 = .ok (.iload 7, 2) := by decide +kernel
theorem dX8_second_17 : decode cX8_second 17 = .ok (.iload_n 2, 1) := by decide +kernel
theorem dX8_second_18 : decode cX8_second 18 = .ok (.if_icmp .gt 29, 3) := by decide +kernel
theorem dX8_second_21 : decode cX8_second 21 = .ok (.aload_n 0, 1) := by decide +kernel
theorem dX8_second_22 : decode cX8_second 22 = .ok (.iload 7, 2) := by decide +kernel
theorem dX8_second_24 : decode cX8_second 24 = .ok (.laload, 1) := by decide +kernel
theorem dX8_second_25 : decode cX8_second 25 = .ok (.lload_n 3, 1) := by decide +kernel
theorem dX8_second_26 : decode cX8_second 26 = .ok (.lcmp, 1) := by decide +kernel
theorem dX8_second_27 : decode cX8_second 27 = .ok (.ifCond .ge 14, 3) := by decide +kernel
theorem dX8_second_30 : decode cX8_second 30 = .ok (.lload 5, 2) := by decide +kernel
theorem dX8_second_32 : decode cX8_second 32 = .ok (.aload_n 0, 1) := by decide +kernel
theorem dX8_second_33 : decode cX8_second 33 = .ok (.iload 7, 2) := by decide +kernel
theorem dX8_second_35 : decode cX8_second 35 = .ok (.laload, 1) := by decide +kernel
theorem dX8_second_36 : decode cX8_second 36 = .ok (.invokestatic 339, 3) := by decide +kernel
theorem dX8_second_39 : decode cX8_second 39 = .ok (.lstore 5, 2) := by decide +kernel
theorem dX8_second_41 : decode cX8_second 41 = .ok (.iinc 7 1, 3) := by decide +kernel
theorem dX8_second_44 : decode cX8_second 44 = .ok (.goto (-29), 3) := by decide +kernel
theorem dX8_second_47 : decode cX8_second 47 = .ok (.lload 5, 2) := by decide +kernel
theorem dX8_second_49 : decode cX8_second 49 = .ok (.lreturn, 1) := by decide +kernel
theorem dX8_howManyFrom_0 : decode cX8_howManyFrom 0 = .ok (.iconst 0, 1) := by decide +kernel
theorem dX8_howManyFrom_1 : decode cX8_howManyFrom 1 = .ok (.istore 5, 2) := by decide +kernel
theorem dX8_howManyFrom_3 : decode cX8_howManyFrom 3 = .ok (.iload_n 1, 1) := by decide +kernel
theorem dX8_howManyFrom_4 : decode cX8_howManyFrom 4 = .ok (.istore 6, 2) := by decide +kernel
theorem dX8_howManyFrom_6 : decode cX8_howManyFrom 6 = .ok (.iload 6, 2) := by decide +kernel
theorem dX8_howManyFrom_8 : decode cX8_howManyFrom 8 = .ok (.iload_n 2, 1) := by decide +kernel
theorem dX8_howManyFrom_9 : decode cX8_howManyFrom 9 = .ok (.if_icmp .gt 21, 3) := by decide +kernel
theorem dX8_howManyFrom_12 : decode cX8_howManyFrom 12 = .ok (.aload_n 0, 1) := by decide +kernel
theorem dX8_howManyFrom_13 : decode cX8_howManyFrom 13 = .ok (.iload 6, 2) := by decide +kernel
theorem dX8_howManyFrom_15 : decode cX8_howManyFrom 15 = .ok (.laload, 1) := by decide +kernel
theorem dX8_howManyFrom_16 : decode cX8_howManyFrom 16 = .ok (.lload_n 3, 1) := by decide +kernel
theorem dX8_howManyFrom_17 : decode cX8_howManyFrom 17 = .ok (.lcmp, 1) := by decide +kernel
theorem dX8_howManyFrom_18 : decode cX8_howManyFrom 18 = .ok (.ifCond .lt 6, 3) := by decide +kernel
theorem dX8_howManyFrom_21 : decode cX8_howManyFrom 21 = .ok (.iinc 5 1, 3) := by decide +kernel
theorem dX8_howManyFrom_24 : decode cX8_howManyFrom 24 = .ok (.iinc 6 1, 3) := by decide +kernel
theorem dX8_howManyFrom_27 : decode cX8_howManyFrom 27 = .ok (.goto (-21), 3) := by decide +kernel
theorem dX8_howManyFrom_30 : decode cX8_howManyFrom 30 = .ok (.iload 5, 2) := by decide +kernel
theorem dX8_howManyFrom_32 : decode cX8_howManyFrom 32 = .ok (.ireturn, 1) := by decide +kernel
set_option maxRecDepth 20000 in
theorem ggX8_howManyGreatest_X8_greatest : GoodIn wsX8_howManyGreatest wsX8_greatest := goodIn_r _ [4, 5, 6, 7, 8] (by decide +kernel) (by decide +kernel)
set_option maxRecDepth 20000 in
theorem gX8_howManyGreatest_X8_greatest : GoodIn wsX8_howManyGreatest (va_wsS RX8 235 yX8_greatest wsX8_greatest) := goodIn_app (goodIn_of _ (by decide +kernel)) ggX8_howManyGreatest_X8_greatest
set_option maxRecDepth 20000 in
theorem ggX8_howManyGreatest_X8_howManyFrom : GoodIn wsX8_howManyGreatest wsX8_howManyFrom := goodIn_r _ [11] (by decide +kernel) (by decide +kernel)
set_option maxRecDepth 20000 in
theorem gX8_howManyGreatest_X8_howManyFrom : GoodIn wsX8_howManyGreatest (va_wsS RX8 279 yX8_howManyFrom wsX8_howManyFrom) := goodIn_app (goodIn_of _ (by decide +kernel)) ggX8_howManyGreatest_X8_howManyFrom
theorem dX8_howManyGreatest_0 : decode cX8_howManyGreatest 0 = .ok (.aload_n 0, 1) := by decide +kernel
theorem dX8_howManyGreatest_1 : decode cX8_howManyGreatest 1 = .ok (.iload_n 1, 1) := by decide +kernel
theorem dX8_howManyGreatest_2 : decode cX8_howManyGreatest 2 = .ok (.iload_n 2, 1) := by decide +kernel
theorem dX8_howManyGreatest_3 : decode cX8_howManyGreatest 3 = .ok (.aload_n 0, 1) := by decide +kernel
theorem dX8_howManyGreatest_4 : decode cX8_howManyGreatest 4 = .ok (.iload_n 1, 1) := by decide +kernel
theorem dX8_howManyGreatest_5 : decode cX8_howManyGreatest 5 = .ok (.iload_n 2, 1) := by decide +kernel
theorem dX8_howManyGreatest_6 : decode cX8_howManyGreatest 6 = .ok (.invokestatic 235, 3) := by decide +kernel
theorem dX8_howManyGreatest_9 : decode cX8_howManyGreatest 9 = .ok (.invokestatic 279, 3) := by decide +kernel
theorem dX8_howManyGreatest_12 : decode cX8_howManyGreatest 12 = .ok (.ireturn, 1) := by decide +kernel
set_option maxRecDepth 20000 in
theorem ggX8_howManyUnlike_X8_standsAhead : GoodIn wsX8_howManyUnlike wsX8_standsAhead := goodIn_r _ [4] (by decide +kernel) (by decide +kernel)
set_option maxRecDepth 20000 in
theorem gX8_howManyUnlike_X8_standsAhead : GoodIn wsX8_howManyUnlike (va_wsS RX8 348 yX8_standsAhead wsX8_standsAhead) := goodIn_app (goodIn_of _ (by decide +kernel)) ggX8_howManyUnlike_X8_standsAhead
theorem dX8_howManyUnlike_0 : decode cX8_howManyUnlike 0 = .ok (.iconst 0, 1) := by decide +kernel
theorem dX8_howManyUnlike_1 : decode cX8_howManyUnlike 1 = .ok (.istore_n 3, 1) := by decide +kernel
theorem dX8_howManyUnlike_2 : decode cX8_howManyUnlike 2 = .ok (.iload_n 1, 1) := by decide +kernel
theorem dX8_howManyUnlike_3 : decode cX8_howManyUnlike 3 = .ok (.istore 4, 2) := by decide +kernel
theorem dX8_howManyUnlike_5 : decode cX8_howManyUnlike 5 = .ok (.iload 4, 2) := by decide +kernel
theorem dX8_howManyUnlike_7 : decode cX8_howManyUnlike 7 = .ok (.iload_n 2, 1) := by decide +kernel
theorem dX8_howManyUnlike_8 : decode cX8_howManyUnlike 8 = .ok (.if_icmp .gt 22, 3) := by decide +kernel
theorem dX8_howManyUnlike_11 : decode cX8_howManyUnlike 11 = .ok (.aload_n 0, 1) := by decide +kernel
theorem dX8_howManyUnlike_12 : decode cX8_howManyUnlike 12 = .ok (.iload_n 1, 1) := by decide +kernel
theorem dX8_howManyUnlike_13 : decode cX8_howManyUnlike 13 = .ok (.iload 4, 2) := by decide +kernel
theorem dX8_howManyUnlike_15 : decode cX8_howManyUnlike 15 = .ok (.invokestatic 348, 3) := by decide +kernel
theorem dX8_howManyUnlike_18 : decode cX8_howManyUnlike 18 = .ok (.ifCond .ne 6, 3) := by decide +kernel
theorem dX8_howManyUnlike_21 : decode cX8_howManyUnlike 21 = .ok (.iinc 3 1, 3) := by decide +kernel
theorem dX8_howManyUnlike_24 : decode cX8_howManyUnlike 24 = .ok (.iinc 4 1, 3) := by decide +kernel
theorem dX8_howManyUnlike_27 : decode cX8_howManyUnlike 27 = .ok (.goto (-22), 3) := by decide +kernel
theorem dX8_howManyUnlike_30 : decode cX8_howManyUnlike 30 = .ok (.iload_n 3, 1) := by decide +kernel
theorem dX8_howManyUnlike_31 : decode cX8_howManyUnlike 31 = .ok (.ireturn, 1) := by decide +kernel
theorem dX8_standsAhead_0 : decode cX8_standsAhead 0 = .ok (.iload_n 1, 1) := by decide +kernel
theorem dX8_standsAhead_1 : decode cX8_standsAhead 1 = .ok (.istore_n 3, 1) := by decide +kernel
theorem dX8_standsAhead_2 : decode cX8_standsAhead 2 = .ok (.iload_n 3, 1) := by decide +kernel
theorem dX8_standsAhead_3 : decode cX8_standsAhead 3 = .ok (.iload_n 2, 1) := by decide +kernel
theorem dX8_standsAhead_4 : decode cX8_standsAhead 4 = .ok (.if_icmp .ge 21, 3) := by decide +kernel
theorem dX8_standsAhead_7 : decode cX8_standsAhead 7 = .ok (.aload_n 0, 1) := by decide +kernel
theorem dX8_standsAhead_8 : decode cX8_standsAhead 8 = .ok (.iload_n 3, 1) := by decide +kernel
theorem dX8_standsAhead_9 : decode cX8_standsAhead 9 = .ok (.laload, 1) := by decide +kernel
theorem dX8_standsAhead_10 : decode cX8_standsAhead 10 = .ok (.aload_n 0, 1) := by decide +kernel
theorem dX8_standsAhead_11 : decode cX8_standsAhead 11 = .ok (.iload_n 2, 1) := by decide +kernel
theorem dX8_standsAhead_12 : decode cX8_standsAhead 12 = .ok (.laload, 1) := by decide +kernel
theorem dX8_standsAhead_13 : decode cX8_standsAhead 13 = .ok (.lcmp, 1) := by decide +kernel
theorem dX8_standsAhead_14 : decode cX8_standsAhead 14 = .ok (.ifCond .ne 5, 3) := by decide +kernel
theorem dX8_standsAhead_17 : decode cX8_standsAhead 17 = .ok (.iconst 1, 1) := by decide +kernel
theorem dX8_standsAhead_18 : decode cX8_standsAhead 18 = .ok (.ireturn, 1) := by decide +kernel
theorem dX8_standsAhead_19 : decode cX8_standsAhead 19 = .ok (.iinc 3 1, 3) := by decide +kernel
theorem dX8_standsAhead_22 : decode cX8_standsAhead 22 = .ok (.goto (-20), 3) := by decide +kernel
theorem dX8_standsAhead_25 : decode cX8_standsAhead 25 = .ok (.iconst 0, 1) := by decide +kernel
theorem dX8_standsAhead_26 : decode cX8_standsAhead 26 = .ok (.ireturn, 1) := by decide +kernel
end
section
theorem dX9_init_0 : decode cX9_init 0 = .ok (.aload_n 0, 1) := by decide +kernel
theorem dX9_init_1 : decode cX9_init 1 = .ok (.invokespecial 1, 3) := by decide +kernel
theorem dX9_init_4 : decode cX9_init 4 = .ok (.aload_n 0, 1) := by decide +kernel
theorem dX9_init_5 : decode cX9_init 5 = .ok (.iconst 4, 1) := by decide +kernel
theorem dX9_init_6 : decode cX9_init 6 = .ok (.newarray .int, 2) := by decide +kernel
theorem dX9_init_8 : decode cX9_init 8 = .ok (.dup, 1) := by decide +kernel
theorem dX9_init_9 : decode cX9_init 9 = .ok (.iconst 0, 1) := by decide +kernel
theorem dX9_init_10 : decode cX9_init 10 = .ok (.bipush (-9), 2) := by decide +kernel
theorem dX9_init_12 : decode cX9_init 12 = .ok (.iastore, 1) := by decide +kernel
theorem dX9_init_13 : decode cX9_init 13 = .ok (.dup, 1) := by decide +kernel
theorem dX9_init_14 : decode cX9_init 14 = .ok (.iconst 1, 1) := by decide +kernel
theorem dX9_init_15 : decode cX9_init 15 = .ok (.bipush (-9), 2) := by decide +kernel
theorem dX9_init_17 : decode cX9_init 17 = .ok (.iastore, 1) := by decide +kernel
theorem dX9_init_18 : decode cX9_init 18 = .ok (.dup, 1) := by decide +kernel
theorem dX9_init_19 : decode cX9_init 19 = .ok (.iconst 2, 1) := by decide +kernel
theorem dX9_init_20 : decode cX9_init 20 = .ok (.bipush (-9), 2) := by decide +kernel
theorem dX9_init_22 : decode cX9_init 22 = .ok (.iastore, 1) := by decide +kernel
theorem dX9_init_23 : decode cX9_init 23 = .ok (.dup, 1) := by decide +kernel
theorem dX9_init_24 : decode cX9_init 24 = .ok (.iconst 3, 1) := by decide +kernel
theorem dX9_init_25 : decode cX9_init 25 = .ok (.bipush (-9), 2) := by decide +kernel
theorem dX9_init_27 : decode cX9_init 27 = .ok (.iastore, 1) := by decide +kernel
theorem dX9_init_28 : decode cX9_init 28 = .ok (.putfield 9, 3) := by decide +kernel
theorem dX9_init_31 : decode cX9_init 31 = .ok (.aload_n 0, 1) := by decide +kernel
theorem dX9_init_32 : decode cX9_init 32 = .ok (.iconst 4, 1) := by decide +kernel
theorem dX9_init_33 : decode cX9_init 33 = .ok (.newarray .int, 2) := by decide +kernel
theorem dX9_init_35 : decode cX9_init 35 = .ok (.putfield 13, 3) := by decide +kernel
theorem dX9_init_38 : decode cX9_init 38 = .ok (.aload_n 0, 1) := by decide +kernel
theorem dX9_init_39 : decode cX9_init 39 = .ok (.sipush 240, 3) := by decide +kernel
theorem dX9_init_42 : decode cX9_init 42 = .ok (.newarray .int, 2) := by decide +kernel
theorem dX9_init_44 : decode cX9_init 44 = .ok (.putfield 16, 3) := by decide +kernel
theorem dX9_init_47 : decode cX9_init 47 = .ok (.aload_n 0, 1) := by decide +kernel
theorem dX9_init_48 : decode cX9_init 48 = .ok (.bipush 16, 2) := by decide +kernel
theorem dX9_init_50 : decode cX9_init 50 = .ok (.newarray .long, 2) := by decide +kernel
theorem dX9_init_52 : decode cX9_init 52 = .ok (.putfield 19, 3) := by decide +kernel
theorem dX9_init_55 : decode cX9_init 55 = .ok (.aload_n 0, 1) := by decide +kernel
theorem dX9_init_56 : decode cX9_init 56 = .ok (.bipush 16, 2) := by decide +kernel
theorem dX9_init_58 : decode cX9_init 58 = .ok (.newarray .long, 2) := by decide +kernel
theorem dX9_init_60 : decode cX9_init 60 = .ok (.putfield 23, 3) := by decide +kernel
theorem dX9_init_63 : decode cX9_init 63 = .ok (.aload_n 0, 1) := by decide +kernel
theorem dX9_init_64 : decode cX9_init 64 = .ok (.bipush 16, 2) := by decide +kernel
theorem dX9_init_66 : decode cX9_init 66 = .ok (.newarray .long, 2) := by decide +kernel
theorem dX9_init_68 : decode cX9_init 68 = .ok (.putfield 26, 3) := by decide +kernel
theorem dX9_init_71 : decode cX9_init 71 = .ok (.aload_n 0, 1) := by decide +kernel
theorem dX9_init_72 : decode cX9_init 72 = .ok (.iconst 3, 1) := by decide +kernel
theorem dX9_init_73 : decode cX9_init 73 = .ok (.newarray .int, 2) := by decide +kernel
theorem dX9_init_75 : decode cX9_init 75 = .ok (.putfield 29, 3) := by decide +kernel
theorem dX9_init_78 : decode cX9_init 78 = .ok (.aload_n 0, 1) := by decide +kernel
theorem dX9_init_79 : decode cX9_init 79 = .ok (.iconst 3, 1) := by decide +kernel
theorem dX9_init_80 : decode cX9_init 80 = .ok (.newarray .int, 2) := by decide +kernel
theorem dX9_init_82 : decode cX9_init 82 = .ok (.putfield 32, 3) := by decide +kernel
theorem dX9_init_85 : decode cX9_init 85 = .ok (.aload_n 0, 1) := by decide +kernel
theorem dX9_init_86 : decode cX9_init 86 = .ok (.bipush 24, 2) := by decide +kernel
theorem dX9_init_88 : decode cX9_init 88 = .ok (.newarray .int, 2) := by decide +kernel
theorem dX9_init_90 : decode cX9_init 90 = .ok (.putfield 35, 3) := by decide +kernel
theorem dX9_init_93 : decode cX9_init 93 = .ok (.aload_n 0, 1) := by decide +kernel
theorem dX9_init_94 : decode cX9_init 94 = .ok (.bipush 24, 2) := by decide +kernel
theorem dX9_init_96 : decode cX9_init 96 = .ok (.newarray .int, 2) := by decide +kernel
theorem dX9_init_98 : decode cX9_init 98 = .ok (.putfield 38, 3) := by decide +kernel
theorem dX9_init_101 : decode cX9_init 101 = .ok (.aload_n 0, 1) := by decide +kernel
theorem dX9_init_102 : decode cX9_init 102 = .ok (.bipush 24, 2) := by decide +kernel
theorem dX9_init_104 : decode cX9_init 104 = .ok (.newarray .int, 2) := by decide +kernel
theorem dX9_init_106 : decode cX9_init 106 = .ok (.putfield 41, 3) := by decide +kernel
theorem dX9_init_109 : decode cX9_init 109 = .ok (.aload_n 0, 1) := by decide +kernel
theorem dX9_init_110 : decode cX9_init 110 = .ok (.bipush 24, 2) := by decide +kernel
theorem dX9_init_112 : decode cX9_init 112 = .ok (.newarray .long, 2) := by decide +kernel
theorem dX9_init_114 : decode cX9_init 114 = .ok (.putfield 44, 3) := by decide +kernel
theorem dX9_init_117 : decode cX9_init 117 = .ok (.aload_n 0, 1) := by decide +kernel
theorem dX9_init_118 : decode cX9_init 118 = .ok (.bipush 16, 2) := by decide +kernel
theorem dX9_init_120 : decode cX9_init 120 = .ok (.newarray .int, 2) := by decide +kernel
theorem dX9_init_122 : decode cX9_init 122 = .ok (.putfield 47, 3) := by decide +kernel
theorem dX9_init_125 : decode cX9_init 125 = .ok (.aload_n 0, 1) := by decide +kernel
theorem dX9_init_126 : decode cX9_init 126 = .ok (.iconst 3, 1) := by decide +kernel
theorem dX9_init_127 : decode cX9_init 127 = .ok (.newarray .int, 2) := by decide +kernel
theorem dX9_init_129 : decode cX9_init 129 = .ok (.putfield 50, 3) := by decide +kernel
theorem dX9_init_132 : decode cX9_init 132 = .ok (.aload_n 0, 1) := by decide +kernel
theorem dX9_init_133 : decode cX9_init 133 = .ok (.iconst 3, 1) := by decide +kernel
theorem dX9_init_134 : decode cX9_init 134 = .ok (.newarray .int, 2) := by decide +kernel
theorem dX9_init_136 : decode cX9_init 136 = .ok (.putfield 53, 3) := by decide +kernel
theorem dX9_init_139 : decode cX9_init 139 = .ok (.aload_n 0, 1) := by decide +kernel
theorem dX9_init_140 : decode cX9_init 140 = .ok (.bipush 16, 2) := by decide +kernel
theorem dX9_init_142 : decode cX9_init 142 = .ok (.newarray .long, 2) := by decide +kernel
theorem dX9_init_144 : decode cX9_init 144 = .ok (.putfield 56, 3) := by decide +kernel
theorem dX9_init_147 : decode cX9_init 147 = .ok (.aload_n 0, 1) := by decide +kernel
theorem dX9_init_148 : decode cX9_init 148 = .ok (.bipush 16, 2) := by decide +kernel
theorem dX9_init_150 : decode cX9_init 150 = .ok (.newarray .long, 2) := by decide +kernel
theorem dX9_init_152 : decode cX9_init 152 = .ok (.putfield 59, 3) := by decide +kernel
theorem dX9_init_155 : decode cX9_init 155 = .ok (.aload_n 0, 1) := by decide +kernel
theorem dX9_init_156 : decode cX9_init 156 = .ok (.bipush 64, 2) := by decide +kernel
theorem dX9_init_158 : decode cX9_init 158 = .ok (.newarray .int, 2) := by decide +kernel
theorem dX9_init_160 : decode cX9_init 160 = .ok (.putfield 62, 3) := by decide +kernel
theorem dX9_init_163 : decode cX9_init 163 = .ok (.aload_n 0, 1) := by decide +kernel
theorem dX9_init_164 : decode cX9_init 164 = .ok (.bipush 8, 2) := by decide +kernel
theorem dX9_init_166 : decode cX9_init 166 = .ok (.newarray .int, 2) := by decide +kernel
theorem dX9_init_168 : decode cX9_init 168 = .ok (.putfield 65, 3) := by decide +kernel
theorem dX9_init_171 : decode cX9_init 171 = .ok (.aload_n 0, 1) := by decide +kernel
theorem dX9_init_172 : decode cX9_init 172 = .ok (.bipush 8, 2) := by decide +kernel
theorem dX9_init_174 : decode cX9_init 174 = .ok (.newarray .long, 2) := by decide +kernel
theorem dX9_init_176 : decode cX9_init 176 = .ok (.putfield 68, 3) := by decide +kernel
theorem dX9_init_179 : decode cX9_init 179 = .ok (.return_, 1) := by decide +kernel
theorem dX9_fails_0 : decode cX9_fails 0 = .ok (.aload_n 0, 1) := by decide +kernel
theorem dX9_fails_1 : decode cX9_fails 1 = .ok (.iload_n 1, 1) := by decide +kernel
theorem dX9_fails_2 : decode cX9_fails 2 = .ok (.putfield 71, 3) := by decide +kernel
theorem dX9_fails_5 : decode cX9_fails 5 = .ok (.bipush (-10), 2) := by decide +kernel
theorem dX9_fails_7 : decode cX9_fails 7 = .ok (.iload_n 1, 1) := by decide +kernel
theorem dX9_fails_8 : decode cX9_fails 8 = .ok (.isub, 1) := by decide +kernel
theorem dX9_fails_9 : decode cX9_fails 9 = .ok (.ireturn, 1) := by decide +kernel
theorem dX9_lost_0 : decode cX9_lost 0 = .ok (.aload_n 0, 1) := by decide +kernel
theorem dX9_lost_1 : decode cX9_lost 1 = .ok (.iload_n 1, 1) := by decide +kernel
theorem dX9_lost_2 : decode cX9_lost 2 = .ok (.putfield 71, 3) := by decide +kernel
theorem dX9_lost_5 : decode cX9_lost 5 = .ok (.ldc2_w 75, 3) := by decide +kernel
theorem dX9_lost_8 : decode cX9_lost 8 = .ok (.lreturn, 1) := by decide +kernel
theorem dX9_within_0 : decode cX9_within 0 = .ok (.iload_n 0, 1) := by decide +kernel
theorem dX9_within_1 : decode cX9_within 1 = .ok (.iload_n 1, 1) := by decide +kernel
theorem dX9_within_2 : decode cX9_within 2 = .ok (.if_icmp .lt 12, 3) := by decide +kernel
theorem dX9_within_5 : decode cX9_within 5 = .ok (.iload_n 0, 1) := by decide +kernel
theorem dX9_within_6 : decode cX9_within 6 = .ok (.iload_n 2, 1) := by decide +kernel
theorem dX9_within_7 : decode cX9_within 7 = .ok (.if_icmp .gt 7, 3) := by decide +kernel
theorem dX9_within_10 : decode cX9_within 10 = .ok (.iconst 1, 1) := by decide +kernel
theorem dX9_within_11 : decode cX9_within 11 = .ok (.goto 4, 3) := by decide +kernel
theorem dX9_within_14 : decode cX9_within 14 = .ok (.iconst 0, 1) := by decide +kernel
theorem dX9_within_15 : decode cX9_within 15 = .ok (.ireturn, 1) := by decide +kernel
theorem dX9_isBetween_0 : decode cX9_isBetween 0 = .ok (.lload_n 0, 1) := by decide +kernel
theorem dX9_isBetween_1 : decode cX9_isBetween 1 = .ok (.lload_n 2, 1) := by decide +kernel
theorem dX9_isBetween_2 : decode cX9_isBetween 2 = .ok (.lcmp, 1) := by decide +kernel
theorem dX9_isBetween_3 : decode cX9_isBetween 3 = .ok (.ifCond .lt 14, 3) := by decide +kernel
theorem dX9_isBetween_6 : decode cX9_isBetween 6 = .ok (.lload_n 0, 1) := by decide +kernel
theorem dX9_isBetween_7 : decode cX9_isBetween 7 = .ok (.lload 4, 2) := by decide +kernel
theorem dX9_isBetween_9 : decode cX9_isBetween 9 = .ok (.lcmp, 1) := by decide +kernel
theorem dX9_isBetween_10 : decode cX9_isBetween 10 = .ok (.ifCond .gt 7, 3) := by decide +kernel
theorem dX9_isBetween_13 : decode cX9_isBetween 13 = .ok (.iconst 1, 1) := by decide +kernel
theorem dX9_isBetween_14 : decode cX9_isBetween 14 = .ok (.goto 4, 3) := by decide +kernel
theorem dX9_isBetween_17 : decode cX9_isBetween 17 = .ok (.iconst 0, 1) := by decide +kernel
theorem dX9_isBetween_18 : decode cX9_isBetween 18 = .ok (.ireturn, 1) := by decide +kernel
set_option maxRecDepth 20000 in
theorem ggX9_isSheet_X9_within : GoodIn wsX9_isSheet wsX9_within := goodIn_r _ [4] (by decide +kernel) (by decide +kernel)
set_option maxRecDepth 20000 in
theorem gX9_isSheet_X9_within : GoodIn wsX9_isSheet (va_wsS RX9 77 yX9_within wsX9_within) := goodIn_app (goodIn_of _ (by decide +kernel)) ggX9_isSheet_X9_within
theorem dX9_isSheet_0 : decode cX9_isSheet 0 = .ok (.iload_n 0, 1) := by decide +kernel
theorem dX9_isSheet_1 : decode cX9_isSheet 1 = .ok (.iconst 0, 1) := by decide +kernel
theorem dX9_isSheet_2 : decode cX9_isSheet 2 = .ok (.iconst 3, 1) := by decide +kernel
theorem dX9_isSheet_3 : decode cX9_isSheet 3 = .ok (.invokestatic 77, 3) := by decide +kernel
theorem dX9_isSheet_6 : decode cX9_isSheet 6 = .ok (.ireturn, 1) := by decide +kernel
set_option maxRecDepth 20000 in
theorem ggX9_isSort_X9_within : GoodIn wsX9_isSort wsX9_within := goodIn_r _ [4] (by decide +kernel) (by decide +kernel)
set_option maxRecDepth 20000 in
theorem gX9_isSort_X9_within : GoodIn wsX9_isSort (va_wsS RX9 77 yX9_within wsX9_within) := goodIn_app (goodIn_of _ (by decide +kernel)) ggX9_isSort_X9_within
theorem dX9_isSort_0 : decode cX9_isSort 0 = .ok (.iload_n 0, 1) := by decide +kernel
theorem dX9_isSort_1 : decode cX9_isSort 1 = .ok (.iconst 0, 1) := by decide +kernel
theorem dX9_isSort_2 : decode cX9_isSort 2 = .ok (.iconst 2, 1) := by decide +kernel
theorem dX9_isSort_3 : decode cX9_isSort 3 = .ok (.invokestatic 77, 3) := by decide +kernel
theorem dX9_isSort_6 : decode cX9_isSort 6 = .ok (.ireturn, 1) := by decide +kernel
theorem dX9_against_0 : decode cX9_against 0 = .ok (.aload_n 0, 1) := by decide +kernel
theorem dX9_against_1 : decode cX9_against 1 = .ok (.getfield 9, 3) := by decide +kernel
theorem dX9_against_4 : decode cX9_against 4 = .ok (.iload_n 1, 1) := by decide +kernel
theorem dX9_against_5 : decode cX9_against 5 = .ok (.iaload, 1) := by decide +kernel
theorem dX9_against_6 : decode cX9_against 6 = .ok (.bipush (-9), 2) := by decide +kernel
theorem dX9_against_8 : decode cX9_against 8 = .ok (.if_icmp .eq 15, 3) := by decide +kernel
theorem dX9_against_11 : decode cX9_against 11 = .ok (.aload_n 0, 1) := by decide +kernel
theorem dX9_against_12 : decode cX9_against 12 = .ok (.getfield 9, 3) := by decide +kernel
theorem dX9_against_15 : decode cX9_against 15 = .ok (.iload_n 1, 1) := by decide +kernel
theorem dX9_against_16 : decode cX9_against 16 = .ok (.iaload, 1) := by decide +kernel
theorem dX9_against_17 : decode cX9_against 17 = .ok (.iload_n 2, 1) := by decide +kernel
theorem dX9_against_18 : decode cX9_against 18 = .ok (.if_icmp .eq 5, 3) := by decide +kernel
theorem dX9_against_21 : decode cX9_against 21 = .ok (.iconst 2, 1) := by decide +kernel
theorem dX9_against_22 : decode cX9_against 22 = .ok (.ireturn, 1) := by decide +kernel
theorem dX9_against_23 : decode cX9_against 23 = .ok (.aload_n 0, 1) := by decide +kernel
theorem dX9_against_24 : decode cX9_against 24 = .ok (.getfield 9, 3) := by decide +kernel
theorem dX9_against_27 : decode cX9_against 27 = .ok (.iload_n 1, 1) := by decide +kernel
theorem dX9_against_28 : decode cX9_against 28 = .ok (.iaload, 1) := by decide +kernel
theorem dX9_against_29 : decode cX9_against 29 = .ok (.bipush (-9), 2) := by decide +kernel
theorem dX9_against_31 : decode cX9_against 31 = .ok (.if_icmp .ne 5, 3) := by decide +kernel
theorem dX9_against_34 : decode cX9_against 34 = .ok (.iconst 1, 1) := by decide +kernel
theorem dX9_against_35 : decode cX9_against 35 = .ok (.ireturn, 1) := by decide +kernel
theorem dX9_against_36 : decode cX9_against 36 = .ok (.iload 4, 2) := by decide +kernel
theorem dX9_against_38 : decode cX9_against 38 = .ok (.ifCond .ge 5, 3) := by decide +kernel
theorem dX9_against_41 : decode cX9_against 41 = .ok (.iconst 4, 1) := by decide +kernel
theorem dX9_against_42 : decode cX9_against 42 = .ok (.ireturn, 1) := by decide +kernel
theorem dX9_against_43 : decode cX9_against 43 = .ok (.iload_n 3, 1) := by decide +kernel
theorem dX9_against_44 : decode cX9_against 44 = .ok (.ifCond .lt 26, 3) := by decide +kernel
theorem dX9_against_47 : decode cX9_against 47 = .ok (.iload_n 3, 1) := by decide +kernel
theorem dX9_against_48 : decode cX9_against 48 = .ok (.aload_n 0, 1) := by decide +kernel
theorem dX9_against_49 : decode cX9_against 49 = .ok (.getfield 13, 3) := by decide +kernel
theorem dX9_against_52 : decode cX9_against 52 = .ok (.iload_n 1, 1) := by decide +kernel
theorem dX9_against_53 : decode cX9_against 53 = .ok (.iaload, 1) := by decide +kernel
theorem dX9_against_54 : decode cX9_against 54 = .ok (.if_icmp .gt 16, 3) := by decide +kernel
theorem dX9_against_57 : decode cX9_against 57 = .ok (.iload 4, 2) := by decide +kernel
theorem dX9_against_59 : decode cX9_against 59 = .ok (.aload_n 0, 1) := by decide +kernel
theorem dX9_against_60 : decode cX9_against 60 = .ok (.getfield 13, 3) := by decide +kernel
theorem dX9_against_63 : decode cX9_against 63 = .ok (.iload_n 1, 1) := by decide +kernel
theorem dX9_against_64 : decode cX9_against 64 = .ok (.iaload, 1) := by decide +kernel
theorem dX9_against_65 : decode cX9_against 65 = .ok (.iload_n 3, 1) := by decide +kernel
theorem dX9_against_66 : decode cX9_against 66 = .ok (.isub, 1) := by decide +kernel
theorem dX9_against_67 : decode cX9_against 67 = .ok (.if_icmp .le 7, 3) := by decide +kernel
theorem dX9_against_70 : decode cX9_against 70 = .ok (.iconst 3, 1) := by decide +kernel
theorem dX9_against_71 : decode cX9_against 71 = .ok (.goto 4, 3) := by decide +kernel
theorem dX9_against_74 : decode cX9_against 74 = .ok (.iconst 0, 1) := by decide +kernel
theorem dX9_against_75 : decode cX9_against 75 = .ok (.ireturn, 1) := by decide +kernel
theorem dX9_isCell_0 : decode cX9_isCell 0 = .ok (.iload_n 1, 1) := by decide +kernel
theorem dX9_isCell_1 : decode cX9_isCell 1 = .ok (.ifCond .lt 15, 3) := by decide +kernel
theorem dX9_isCell_4 : decode cX9_isCell 4 = .ok (.iload_n 1, 1) := by decide +kernel
theorem dX9_isCell_5 : decode cX9_isCell 5 = .ok (.aload_n 0, 1) := by decide +kernel
theorem dX9_isCell_6 : decode cX9_isCell 6 = .ok (.getfield 81, 3) := by decide +kernel
theorem dX9_isCell_9 : decode cX9_isCell 9 = .ok (.if_icmp .ge 7, 3) := by decide +kernel
theorem dX9_isCell_12 : decode cX9_isCell 12 = .ok (.iconst 1, 1) := by decide +kernel
theorem dX9_isCell_13 : decode cX9_isCell 13 = .ok (.goto 4, 3) := by decide +kernel
theorem dX9_isCell_16 : decode cX9_isCell 16 = .ok (.iconst 0, 1) := by decide +kernel
theorem dX9_isCell_17 : decode cX9_isCell 17 = .ok (.ireturn, 1) := by decide +kernel
theorem dX9_isHelper_0 : decode cX9_isHelper 0 = .ok (.iload_n 1, 1) := by decide +kernel
theorem dX9_isHelper_1 : decode cX9_isHelper 1 = .ok (.ifCond .lt 15, 3) := by decide +kernel
theorem dX9_isHelper_4 : decode cX9_isHelper 4 = .ok (.iload_n 1, 1) := by decide +kernel
theorem dX9_isHelper_5 : decode cX9_isHelper 5 = .ok (.aload_n 0, 1) := by decide +kernel
theorem dX9_isHelper_6 : decode cX9_isHelper 6 = .ok (.getfield 84, 3) := by decide +kernel
theorem dX9_isHelper_9 : decode cX9_isHelper 9 = .ok (.if_icmp .ge 7, 3) := by decide +kernel
theorem dX9_isHelper_12 : decode cX9_isHelper 12 = .ok (.iconst 1, 1) := by decide +kernel
theorem dX9_isHelper_13 : decode cX9_isHelper 13 = .ok (.goto 4, 3) := by decide +kernel
theorem dX9_isHelper_16 : decode cX9_isHelper 16 = .ok (.iconst 0, 1) := by decide +kernel
theorem dX9_isHelper_17 : decode cX9_isHelper 17 = .ok (.ireturn, 1) := by decide +kernel
set_option maxRecDepth 20000 in
theorem ggX9_digit_X9_within : GoodIn wsX9_digit wsX9_within := goodIn_r _ [6] (by decide +kernel) (by decide +kernel)
set_option maxRecDepth 20000 in
theorem gX9_digit_X9_within : GoodIn wsX9_digit (va_wsS RX9 77 yX9_within wsX9_within) := goodIn_app (goodIn_of _ (by decide +kernel)) ggX9_digit_X9_within
theorem dX9_digit_0 : decode cX9_digit 0 = .ok (.aload_n 0, 1) := by decide +kernel
theorem dX9_digit_1 : decode cX9_digit 1 = .ok (.getfield 87, 3) := by decide +kernel
theorem dX9_digit_4 : decode cX9_digit 4 = .ok (.iload_n 1, 1) := by decide +kernel
theorem dX9_digit_5 : decode cX9_digit 5 = .ok (.if_icmp .ge 22, 3) := by decide +kernel
theorem dX9_digit_8 : decode cX9_digit 8 = .ok (.aload_n 0, 1) := by decide +kernel
theorem dX9_digit_9 : decode cX9_digit 9 = .ok (.getfield 16, 3) := by decide +kernel
theorem dX9_digit_12 : decode cX9_digit 12 = .ok (.aload_n 0, 1) := by decide +kernel
theorem dX9_digit_13 : decode cX9_digit 13 = .ok (.getfield 87, 3) := by decide +kernel
theorem dX9_digit_16 : decode cX9_digit 16 = .ok (.iaload, 1) := by decide +kernel
theorem dX9_digit_17 : decode cX9_digit 17 = .ok (.bipush 48, 2) := by decide +kernel
theorem dX9_digit_19 : decode cX9_digit 19 = .ok (.bipush 57, 2) := by decide +kernel
theorem dX9_digit_21 : decode cX9_digit 21 = .ok (.invokestatic 77, 3) := by decide +kernel
theorem dX9_digit_24 : decode cX9_digit 24 = .ok (.ifCond .ne 6, 3) := by decide +kernel
theorem dX9_digit_27 : decode cX9_digit 27 = .ok (.bipush (-9), 2) := by decide +kernel
theorem dX9_digit_29 : decode cX9_digit 29 = .ok (.ireturn, 1) := by decide +kernel
theorem dX9_digit_30 : decode cX9_digit 30 = .ok (.aload_n 0, 1) := by decide +kernel
theorem dX9_digit_31 : decode cX9_digit 31 = .ok (.dup, 1) := by decide +kernel
theorem dX9_digit_32 : decode cX9_digit 32 = .ok (.getfield 87, 3) := by decide +kernel
theorem dX9_digit_35 : decode cX9_digit 35 = .ok (.iconst 1, 1) := by decide +kernel
theorem dX9_digit_36 : decode cX9_digit 36 = .ok (.iadd, 1) := by decide +kernel
theorem dX9_digit_37 : decode cX9_digit 37 = .ok (.putfield 87, 3) := by decide +kernel
theorem dX9_digit_40 : decode cX9_digit 40 = .ok (.aload_n 0, 1) := by decide +kernel
theorem dX9_digit_41 : decode cX9_digit 41 = .ok (.getfield 16, 3) := by decide +kernel
theorem dX9_digit_44 : decode cX9_digit 44 = .ok (.aload_n 0, 1) := by decide +kernel
theorem dX9_digit_45 : decode cX9_digit 45 = .ok (.getfield 87, 3) := by decide +kernel
theorem dX9_digit_48 : decode cX9_digit 48 = .ok (.iconst 1, 1) := by decide +kernel
theorem dX9_digit_49 : decode cX9_digit 49 = .ok (.isub, 1) := by decide +kernel
theorem dX9_digit_50 : decode cX9_digit 50 = .ok (.iaload, 1) := by decide +kernel
theorem dX9_digit_51 : decode cX9_digit 51 = .ok (.bipush 48, 2) := by decide +kernel
theorem dX9_digit_53 : decode cX9_digit 53 = .ok (.isub, 1) := by decide +kernel
theorem dX9_digit_54 : decode cX9_digit 54 = .ok (.ireturn, 1) := by decide +kernel
theorem dX9_isSign_0 : decode cX9_isSign 0 = .ok (.aload_n 0, 1) := by decide +kernel
theorem dX9_isSign_1 : decode cX9_isSign 1 = .ok (.getfield 87, 3) := by decide +kernel
theorem dX9_isSign_4 : decode cX9_isSign 4 = .ok (.iload_n 1, 1) := by decide +kernel
theorem dX9_isSign_5 : decode cX9_isSign 5 = .ok (.if_icmp .ge 16, 3) := by decide +kernel
theorem dX9_isSign_8 : decode cX9_isSign 8 = .ok (.aload_n 0, 1) := by decide +kernel
theorem dX9_isSign_9 : decode cX9_isSign 9 = .ok (.getfield 16, 3) := by decide +kernel
theorem dX9_isSign_12 : decode cX9_isSign 12 = .ok (.aload_n 0, 1) := by decide +kernel
theorem dX9_isSign_13 : decode cX9_isSign 13 = .ok (.getfield 87, 3) := by decide +kernel
theorem dX9_isSign_16 : decode cX9_isSign 16 = .ok (.iaload, 1) := by decide +kernel
theorem dX9_isSign_17 : decode cX9_isSign 17 = .ok (.iload_n 2, 1) := by decide +kernel
theorem dX9_isSign_18 : decode cX9_isSign 18 = .ok (.if_icmp .eq 5, 3) := by decide +kernel
theorem dX9_isSign_21 : decode cX9_isSign 21 = .ok (.iconst 0, 1) := by decide +kernel
theorem dX9_isSign_22 : decode cX9_isSign 22 = .ok (.ireturn, 1) := by decide +kernel
theorem dX9_isSign_23 : decode cX9_isSign 23 = .ok (.aload_n 0, 1) := by decide +kernel
theorem dX9_isSign_24 : decode cX9_isSign 24 = .ok (.dup, 1) := by decide +kernel
theorem dX9_isSign_25 : decode cX9_isSign 25 = .ok (.getfield 87, 3) := by decide +kernel
theorem dX9_isSign_28 : decode cX9_isSign 28 = .ok (.iconst 1, 1) := by decide +kernel
theorem dX9_isSign_29 : decode cX9_isSign 29 = .ok (.iadd, 1) := by decide +kernel
theorem dX9_isSign_30 : decode cX9_isSign 30 = .ok (.putfield 87, 3) := by decide +kernel
theorem dX9_isSign_33 : decode cX9_isSign 33 = .ok (.iconst 1, 1) := by decide +kernel
theorem dX9_isSign_34 : decode cX9_isSign 34 = .ok (.ireturn, 1) := by decide +kernel
set_option maxRecDepth 20000 in
theorem ggX9_row_X9_isSheet : GoodIn wsX9_row wsX9_isSheet := goodIn_r _ [17, 18, 19, 16, 20] (by decide +kernel) (by decide +kernel)
set_option maxRecDepth 20000 in
theorem gX9_row_X9_isSheet : GoodIn wsX9_row (va_wsS RX9 90 yX9_isSheet wsX9_isSheet) := goodIn_app (goodIn_of _ (by decide +kernel)) ggX9_row_X9_isSheet
set_option maxRecDepth 20000 in
theorem ggX9_row_X9_isSort : GoodIn wsX9_row wsX9_isSort := goodIn_r _ [23, 18, 19, 16, 20] (by decide +kernel) (by decide +kernel)
set_option maxRecDepth 20000 in
theorem gX9_row_X9_isSort : GoodIn wsX9_row (va_wsS RX9 94 yX9_isSort wsX9_isSort) := goodIn_app (goodIn_of _ (by decide +kernel)) ggX9_row_X9_isSort
set_option maxRecDepth 20000 in
theorem ggX9_row_X9_against : GoodIn wsX9_row wsX9_against := goodIn_r _ [27, 28, 29, 58, 59, 60, 61, 62, 63, 64, 65, 66, 67, 68, 69, 70, 71, 72, 73, 74, 75, 76, 77, 78, 79, 80, 81, 82, 83, 84, 85, 86, 87, 88] (by decide +kernel) (by decide +kernel)
set_option maxRecDepth 20000 in
theorem gX9_row_X9_against : GoodIn wsX9_row (wsV RX9 97 RX9 yX9_against wsX9_against) := goodIn_app (goodIn_of _ (by decide +kernel)) ggX9_row_X9_against
set_option maxRecDepth 20000 in
theorem ggX9_row_X9_fails : GoodIn wsX9_row wsX9_fails := goodIn_r _ [33, 1, 58, 59, 60, 61, 62, 63, 64, 65, 66, 67, 68, 69, 70, 71, 72, 73, 74, 75, 76, 77, 78, 79, 80, 81, 82, 83, 84, 85, 86, 87, 88] (by decide +kernel) (by decide +kernel)
set_option maxRecDepth 20000 in
theorem gX9_row_X9_fails : GoodIn wsX9_row (wsV RX9 101 RX9 yX9_fails wsX9_fails) := goodIn_app (goodIn_of _ (by decide +kernel)) ggX9_row_X9_fails
set_option maxRecDepth 20000 in
theorem ggX9_row_X9_readRow : GoodIn wsX9_row wsX9_readRow := goodIn_r _ [37, 3, 5, 8, 2, 38, 39, 40, 16, 41, 42, 43, 44, 45, 46, 18, 19, 20, 47, 48, 49, 50, 10, 12, 58, 59, 60, 61, 62, 63, 64, 65, 66, 67, 68, 69, 70, 71, 72, 73, 74, 75, 76, 77, 78, 79, 80, 81, 82, 83, 84, 85, 86, 87, 88] (by decide +kernel) (by decide +kernel)
set_option maxRecDepth 20000 in
theorem gX9_row_X9_readRow : GoodIn wsX9_row (wsV RX9 105 RX9 yX9_readRow wsX9_readRow) := goodIn_app (goodIn_of _ (by decide +kernel)) ggX9_row_X9_readRow
set_option maxRecDepth 20000 in
theorem ggX9_row_X9_begins : GoodIn wsX9_row wsX9_begins := goodIn_r _ [54, 55, 4, 56, 7, 57, 58, 59, 60, 61, 62, 63, 64, 65, 66, 67, 68, 69, 70, 71, 72, 73, 74, 75, 76, 77, 78, 79, 80, 81, 82, 83, 84, 85, 86, 87, 88] (by decide +kernel) (by decide +kernel)
set_option maxRecDepth 20000 in
theorem gX9_row_X9_begins : GoodIn wsX9_row (wsV RX9 114 RX9 yX9_begins wsX9_begins) := goodIn_app (goodIn_of _ (by decide +kernel)) ggX9_row_X9_begins
theorem dX9_row_0 : decode cX9_row 0 = .ok (.aload_n 0, 1) := by decide +kernel
theorem dX9_row_1 : decode cX9_row 1 = .ok (.iconst 0, 1) := by decide +kernel
theorem dX9_row_2 : decode cX9_row 2 = .ok (.putfield 71, 3) := by decide +kernel
theorem dX9_row_5 : decode cX9_row 5 = .ok (.iload_n 1, 1) := by decide +kernel
theorem dX9_row_6 : decode cX9_row 6 = .ok (.invokestatic 90, 3) := by decide +kernel
theorem dX9_row_9 : decode cX9_row 9 = .ok (.ifCond .ne 5, 3) := by decide +kernel
theorem dX9_row_12 : decode cX9_row 12 = .ok (.iconst (-1), 1) := by decide +kernel
theorem dX9_row_13 : decode cX9_row 13 = .ok (.ireturn, 1) := by decide +kernel
theorem dX9_row_14 : decode cX9_row 14 = .ok (.iload_n 2, 1) := by decide +kernel
theorem dX9_row_15 : decode cX9_row 15 = .ok (.invokestatic 94, 3) := by decide +kernel
theorem dX9_row_18 : decode cX9_row 18 = .ok (.ifCond .ne 6, 3) := by decide +kernel
theorem dX9_row_21 : decode cX9_row 21 = .ok (.bipush (-2), 2) := by decide +kernel
theorem dX9_row_23 : decode cX9_row 23 = .ok (.ireturn, 1) := by decide +kernel
theorem dX9_row_24 : decode cX9_row 24 = .ok (.aload_n 0, 1) := by decide +kernel
theorem dX9_row_25 : decode cX9_row 25 = .ok (.iload_n 1, 1) := by decide +kernel
theorem dX9_row_26 : decode cX9_row 26 = .ok (.iload_n 2, 1) := by decide +kernel
theorem dX9_row_27 : decode cX9_row 27 = .ok (.iload_n 3, 1) := by decide +kernel
theorem dX9_row_28 : decode cX9_row 28 = .ok (.iload 4, 2) := by decide +kernel
theorem dX9_row_30 : decode cX9_row 30 = .ok (.invokevirtual 97, 3) := by decide +kernel
theorem dX9_row_33 : decode cX9_row 33 = .ok (.istore 5, 2) := by decide +kernel
theorem dX9_row_35 : decode cX9_row 35 = .ok (.iload 5, 2) := by decide +kernel
theorem dX9_row_37 : decode cX9_row 37 = .ok (.ifCond .eq 10, 3) := by decide +kernel
theorem dX9_row_40 : decode cX9_row 40 = .ok (.aload_n 0, 1) := by decide +kernel
theorem dX9_row_41 : decode cX9_row 41 = .ok (.iload 5, 2) := by decide +kernel
theorem dX9_row_43 : decode cX9_row 43 = .ok (.invokevirtual 101, 3) := by decide +kernel
theorem dX9_row_46 : decode cX9_row 46 = .ok (.ireturn, 1) := by decide +kernel
theorem dX9_row_47 : decode cX9_row 47 = .ok (.bipush 60, 2) := by decide +kernel
theorem dX9_row_49 : decode cX9_row 49 = .ok (.iload_n 1, 1) := by decide +kernel
theorem dX9_row_50 : decode cX9_row 50 = .ok (.imul, 1) := by decide +kernel
theorem dX9_row_51 : decode cX9_row 51 = .ok (.iload_n 3, 1) := by decide +kernel
theorem dX9_row_52 : decode cX9_row 52 = .ok (.iadd, 1) := by decide +kernel
theorem dX9_row_53 : decode cX9_row 53 = .ok (.istore 6, 2) := by decide +kernel
theorem dX9_row_55 : decode cX9_row 55 = .ok (.aload_n 0, 1) := by decide +kernel
theorem dX9_row_56 : decode cX9_row 56 = .ok (.iload 6, 2) := by decide +kernel
theorem dX9_row_58 : decode cX9_row 58 = .ok (.putfield 87, 3) := by decide +kernel
theorem dX9_row_61 : decode cX9_row 61 = .ok (.aload_n 0, 1) := by decide +kernel
theorem dX9_row_62 : decode cX9_row 62 = .ok (.iload 6, 2) := by decide +kernel
theorem dX9_row_64 : decode cX9_row 64 = .ok (.iload 4, 2) := by decide +kernel
theorem dX9_row_66 : decode cX9_row 66 = .ok (.iadd, 1) := by decide +kernel
theorem dX9_row_67 : decode cX9_row 67 = .ok (.invokevirtual 105, 3) := by decide +kernel
theorem dX9_row_70 : decode cX9_row 70 = .ok (.ifCond .ne 14, 3) := by decide +kernel
theorem dX9_row_73 : decode cX9_row 73 = .ok (.bipush (-100), 2) := by decide +kernel
theorem dX9_row_75 : decode cX9_row 75 = .ok (.aload_n 0, 1) := by decide +kernel
theorem dX9_row_76 : decode cX9_row 76 = .ok (.getfield 87, 3) := by decide +kernel
theorem dX9_row_79 : decode cX9_row 79 = .ok (.iload 6, 2) := by decide +kernel
theorem dX9_row_81 : decode cX9_row 81 = .ok (.isub, 1) := by decide +kernel
theorem dX9_row_82 : decode cX9_row 82 = .ok (.isub, 1) := by decide +kernel
theorem dX9_row_83 : decode cX9_row 83 = .ok (.ireturn, 1) := by decide +kernel
theorem dX9_row_84 : decode cX9_row 84 = .ok (.aload_n 0, 1) := by decide +kernel
theorem dX9_row_85 : decode cX9_row 85 = .ok (.aload_n 0, 1) := by decide +kernel
theorem dX9_row_86 : decode cX9_row 86 = .ok (.getfield 108, 3) := by decide +kernel
theorem dX9_row_89 : decode cX9_row 89 = .ok (.putfield 81, 3) := by decide +kernel
theorem dX9_row_92 : decode cX9_row 92 = .ok (.aload_n 0, 1) := by decide +kernel
theorem dX9_row_93 : decode cX9_row 93 = .ok (.aload_n 0, 1) := by decide +kernel
theorem dX9_row_94 : decode cX9_row 94 = .ok (.getfield 111, 3) := by decide +kernel
theorem dX9_row_97 : decode cX9_row 97 = .ok (.putfield 84, 3) := by decide +kernel
theorem dX9_row_100 : decode cX9_row 100 = .ok (.iconst 0, 1) := by decide +kernel
theorem dX9_row_101 : decode cX9_row 101 = .ok (.istore 7, 2) := by decide +kernel
theorem dX9_row_103 : decode cX9_row 103 = .ok (.iload 7, 2) := by decide +kernel
theorem dX9_row_105 : decode cX9_row 105 = .ok (.aload_n 0, 1) := by decide +kernel
theorem dX9_row_106 : decode cX9_row 106 = .ok (.getfield 81, 3) := by decide +kernel
theorem dX9_row_109 : decode cX9_row 109 = .ok (.if_icmp .ge 24, 3) := by decide +kernel
theorem dX9_row_112 : decode cX9_row 112 = .ok (.aload_n 0, 1) := by decide +kernel
theorem dX9_row_113 : decode cX9_row 113 = .ok (.getfield 19, 3) := by decide +kernel
theorem dX9_row_116 : decode cX9_row 116 = .ok (.iload 7, 2) := by decide +kernel
theorem dX9_row_118 : decode cX9_row 118 = .ok (.aload_n 0, 1) := by decide +kernel
theorem dX9_row_119 : decode cX9_row 119 = .ok (.getfield 47, 3) := by decide +kernel
theorem dX9_row_122 : decode cX9_row 122 = .ok (.iload 7, 2) := by decide +kernel
theorem dX9_row_124 : decode cX9_row 124 = .ok (.iaload, 1) := by decide +kernel
theorem dX9_row_125 : decode cX9_row 125 = .ok (.i2l, 1) := by decide +kernel
theorem dX9_row_126 : decode cX9_row 126 = .ok (.lastore, 1) := by decide +kernel
theorem dX9_row_127 : decode cX9_row 127 = .ok (.iinc 7 1, 3) := by decide +kernel
theorem dX9_row_130 : decode cX9_row 130 = .ok (.goto (-27), 3) := by decide +kernel
theorem dX9_row_133 : decode cX9_row 133 = .ok (.iconst 0, 1) := by decide +kernel
theorem dX9_row_134 : decode cX9_row 134 = .ok (.istore 7, 2) := by decide +kernel
theorem dX9_row_136 : decode cX9_row 136 = .ok (.iload 7, 2) := by decide +kernel
theorem dX9_row_138 : decode cX9_row 138 = .ok (.aload_n 0, 1) := by decide +kernel
theorem dX9_row_139 : decode cX9_row 139 = .ok (.getfield 84, 3) := by decide +kernel
theorem dX9_row_142 : decode cX9_row 142 = .ok (.if_icmp .ge 37, 3) := by decide +kernel
theorem dX9_row_145 : decode cX9_row 145 = .ok (.aload_n 0, 1) := by decide +kernel
theorem dX9_row_146 : decode cX9_row 146 = .ok (.getfield 29, 3) := by decide +kernel
theorem dX9_row_149 : decode cX9_row 149 = .ok (.iload 7, 2) := by decide +kernel
theorem dX9_row_151 : decode cX9_row 151 = .ok (.aload_n 0, 1) := by decide +kernel
theorem dX9_row_152 : decode cX9_row 152 = .ok (.getfield 50, 3) := by decide +kernel
theorem dX9_row_155 : decode cX9_row 155 = .ok (.iload 7, 2) := by decide +kernel
theorem dX9_row_157 : decode cX9_row 157 = .ok (.iaload, 1) := by decide +kernel
theorem dX9_row_158 : decode cX9_row 158 = .ok (.iastore, 1) := by decide +kernel
theorem dX9_row_159 : decode cX9_row 159 = .ok (.aload_n 0, 1) := by decide +kernel
theorem dX9_row_160 : decode cX9_row 160 = .ok (.getfield 32, 3) := by decide +kernel
theorem dX9_row_163 : decode cX9_row 163 = .ok (.iload 7, 2) := by decide +kernel
theorem dX9_row_165 : decode cX9_row 165 = .ok (.aload_n 0, 1) := by decide +kernel
theorem dX9_row_166 : decode cX9_row 166 = .ok (.getfield 53, 3) := by decide +kernel
theorem dX9_row_169 : decode cX9_row 169 = .ok (.iload 7, 2) := by decide +kernel
theorem dX9_row_171 : decode cX9_row 171 = .ok (.iaload, 1) := by decide +kernel
theorem dX9_row_172 : decode cX9_row 172 = .ok (.iastore, 1) := by decide +kernel
theorem dX9_row_173 : decode cX9_row 173 = .ok (.iinc 7 1, 3) := by decide +kernel
theorem dX9_row_176 : decode cX9_row 176 = .ok (.goto (-40), 3) := by decide +kernel
theorem dX9_row_179 : decode cX9_row 179 = .ok (.aload_n 0, 1) := by decide +kernel
theorem dX9_row_180 : decode cX9_row 180 = .ok (.invokevirtual 114, 3) := by decide +kernel
theorem dX9_row_183 : decode cX9_row 183 = .ok (.aload_n 0, 1) := by decide +kernel
theorem dX9_row_184 : decode cX9_row 184 = .ok (.iconst 0, 1) := by decide +kernel
theorem dX9_row_185 : decode cX9_row 185 = .ok (.putfield 117, 3) := by decide +kernel
theorem dX9_row_188 : decode cX9_row 188 = .ok (.aload_n 0, 1) := by decide +kernel
theorem dX9_row_189 : decode cX9_row 189 = .ok (.getfield 81, 3) := by decide +kernel
theorem dX9_row_192 : decode cX9_row 192 = .ok (.ireturn, 1) := by decide +kernel
theorem dX9_begins_0 : decode cX9_begins 0 = .ok (.aload_n 0, 1) := by decide +kernel
theorem dX9_begins_1 : decode cX9_begins 1 = .ok (.iconst 0, 1) := by decide +kernel
theorem dX9_begins_2 : decode cX9_begins 2 = .ok (.putfield 120, 3) := by decide +kernel
theorem dX9_begins_5 : decode cX9_begins 5 = .ok (.iconst 0, 1) := by decide +kernel
theorem dX9_begins_6 : decode cX9_begins 6 = .ok (.istore_n 1, 1) := by decide +kernel
theorem dX9_begins_7 : decode cX9_begins 7 = .ok (.iload_n 1, 1) := by decide +kernel
theorem dX9_begins_8 : decode cX9_begins 8 = .ok (.aload_n 0, 1) := by decide +kernel
theorem dX9_begins_9 : decode cX9_begins 9 = .ok (.getfield 81, 3) := by decide +kernel
theorem dX9_begins_12 : decode cX9_begins 12 = .ok (.if_icmp .ge 33, 3) := by decide +kernel
theorem dX9_begins_15 : decode cX9_begins 15 = .ok (.aload_n 0, 1) := by decide +kernel
theorem dX9_begins_16 : decode cX9_begins 16 = .ok (.getfield 23, 3) := by decide +kernel
theorem dX9_begins_19 : decode cX9_begins 19 = .ok (.iload_n 1, 1) := by decide +kernel
theorem dX9_begins_20 : decode cX9_begins 20 = .ok (.aload_n 0, 1) := by decide +kernel
theorem dX9_begins_21 : decode cX9_begins 21 = .ok (.getfield 19, 3) := by decide +kernel
theorem dX9_begins_24 : decode cX9_begins 24 = .ok (.iload_n 1, 1) := by decide +kernel
theorem dX9_begins_25 : decode cX9_begins 25 = .ok (.laload, 1) := by decide +kernel
theorem dX9_begins_26 : decode cX9_begins 26 = .ok (.lastore, 1) := by decide +kernel
theorem dX9_begins_27 : decode cX9_begins 27 = .ok (.aload_n 0, 1) := by decide +kernel
theorem dX9_begins_28 : decode cX9_begins 28 = .ok (.getfield 26, 3) := by decide +kernel
theorem dX9_begins_31 : decode cX9_begins 31 = .ok (.iload_n 1, 1) := by decide +kernel
theorem dX9_begins_32 : decode cX9_begins 32 = .ok (.aload_n 0, 1) := by decide +kernel
theorem dX9_begins_33 : decode cX9_begins 33 = .ok (.getfield 19, 3) := by decide +kernel
theorem dX9_begins_36 : decode cX9_begins 36 = .ok (.iload_n 1, 1) := by decide +kernel
theorem dX9_begins_37 : decode cX9_begins 37 = .ok (.laload, 1) := by decide +kernel
theorem dX9_begins_38 : decode cX9_begins 38 = .ok (.lastore, 1) := by decide +kernel
theorem dX9_begins_39 : decode cX9_begins 39 = .ok (.iinc 1 1, 3) := by decide +kernel
theorem dX9_begins_42 : decode cX9_begins 42 = .ok (.goto (-35), 3) := by decide +kernel
theorem dX9_begins_45 : decode cX9_begins 45 = .ok (.return_, 1) := by decide +kernel
set_option maxRecDepth 20000 in
theorem ggX9_readRow_X9_isSign : GoodIn wsX9_readRow wsX9_isSign := goodIn_r _ [9, 4, 10, 24, 25, 26, 27, 28, 29, 30, 31, 32, 33, 34, 35, 36, 37, 38, 39, 40, 41, 42, 43, 44, 45, 46, 47, 48, 49, 50, 51, 52, 53, 54] (by decide +kernel) (by decide +kernel)
set_option maxRecDepth 20000 in
theorem gX9_readRow_X9_isSign : GoodIn wsX9_readRow (wsV RX9 123 RX9 yX9_isSign wsX9_isSign) := goodIn_app (goodIn_of _ (by decide +kernel)) ggX9_readRow_X9_isSign
set_option maxRecDepth 20000 in
theorem ggX9_readRow_X9_digit : GoodIn wsX9_readRow wsX9_digit := goodIn_r _ [14, 4, 10, 15, 16, 8, 17, 24, 25, 26, 27, 28, 29, 30, 31, 32, 33, 34, 35, 36, 37, 38, 39, 40, 41, 42, 43, 44, 45, 46, 47, 48, 49, 50, 51, 52, 53, 54] (by decide +kernel) (by decide +kernel)
set_option maxRecDepth 20000 in
theorem gX9_readRow_X9_digit : GoodIn wsX9_readRow (wsV RX9 127 RX9 yX9_digit wsX9_digit) := goodIn_app (goodIn_of _ (by decide +kernel)) ggX9_readRow_X9_digit
set_option maxRecDepth 20000 in
theorem ggX9_readRow_X9_readHelper : GoodIn wsX9_readRow wsX9_readHelper := goodIn_r _ [21, 4, 10, 22, 2, 23, 11, 12, 13, 8, 14, 15, 16, 17, 24, 25, 26, 27, 28, 29, 30, 31, 32, 33, 34, 35, 36, 37, 38, 39, 40, 41, 42, 43, 44, 45, 46, 47, 48, 49, 50, 51, 52, 53, 54] (by decide +kernel) (by decide +kernel)
set_option maxRecDepth 20000 in
theorem gX9_readRow_X9_readHelper : GoodIn wsX9_readRow (wsV RX9 130 RX9 yX9_readHelper wsX9_readHelper) := goodIn_app (goodIn_of _ (by decide +kernel)) ggX9_readRow_X9_readHelper
theorem dX9_readRow_0 : decode cX9_readRow 0 = .ok (.aload_n 0, 1) := by decide +kernel
theorem dX9_readRow_1 : decode cX9_readRow 1 = .ok (.iconst 0, 1) := by decide +kernel
theorem dX9_readRow_2 : decode cX9_readRow 2 = .ok (.putfield 108, 3) := by decide +kernel
theorem dX9_readRow_5 : decode cX9_readRow 5 = .ok (.aload_n 0, 1) := by decide +kernel
theorem dX9_readRow_6 : decode cX9_readRow 6 = .ok (.iconst 0, 1) := by decide +kernel
theorem dX9_readRow_7 : decode cX9_readRow 7 = .ok (.putfield 111, 3) := by decide +kernel
theorem dX9_readRow_10 : decode cX9_readRow 10 = .ok (.aload_n 0, 1) := by decide +kernel
theorem dX9_readRow_11 : decode cX9_readRow 11 = .ok (.iload_n 1, 1) := by decide +kernel
theorem dX9_readRow_12 : decode cX9_readRow 12 = .ok (.bipush 114, 2) := by decide +kernel
theorem dX9_readRow_14 : decode cX9_readRow 14 = .ok (.invokevirtual 123, 3) := by decide +kernel
theorem dX9_readRow_17 : decode cX9_readRow 17 = .ok (.ifCond .ne 5, 3) := by decide +kernel
theorem dX9_readRow_20 : decode cX9_readRow 20 = .ok (.iconst 0, 1) := by decide +kernel
theorem dX9_readRow_21 : decode cX9_readRow 21 = .ok (.ireturn, 1) := by decide +kernel
theorem dX9_readRow_22 : decode cX9_readRow 22 = .ok (.aload_n 0, 1) := by decide +kernel
theorem dX9_readRow_23 : decode cX9_readRow 23 = .ok (.iload_n 1, 1) := by decide +kernel
theorem dX9_readRow_24 : decode cX9_readRow 24 = .ok (.invokevirtual 127, 3) := by decide +kernel
theorem dX9_readRow_27 : decode cX9_readRow 27 = .ok (.istore_n 2, 1) := by decide +kernel
theorem dX9_readRow_28 : decode cX9_readRow 28 = .ok (.iload_n 2, 1) := by decide +kernel
theorem dX9_readRow_29 : decode cX9_readRow 29 = .ok (.bipush (-9), 2) := by decide +kernel
theorem dX9_readRow_31 : decode cX9_readRow 31 = .ok (.if_icmp .eq 46, 3) := by decide +kernel
theorem dX9_readRow_34 : decode cX9_readRow 34 = .ok (.aload_n 0, 1) := by decide +kernel
theorem dX9_readRow_35 : decode cX9_readRow 35 = .ok (.getfield 47, 3) := by decide +kernel
theorem dX9_readRow_38 : decode cX9_readRow 38 = .ok (.aload_n 0, 1) := by decide +kernel
theorem dX9_readRow_39 : decode cX9_readRow 39 = .ok (.getfield 108, 3) := by decide +kernel
theorem dX9_readRow_42 : decode cX9_readRow 42 = .ok (.iload_n 2, 1) := by decide +kernel
theorem dX9_readRow_43 : decode cX9_readRow 43 = .ok (.iastore, 1) := by decide +kernel
theorem dX9_readRow_44 : decode cX9_readRow 44 = .ok (.aload_n 0, 1) := by decide +kernel
theorem dX9_readRow_45 : decode cX9_readRow 45 = .ok (.dup, 1) := by decide +kernel
theorem dX9_readRow_46 : decode cX9_readRow 46 = .ok (.getfield 108, 3) := by decide +kernel
theorem dX9_readRow_49 : decode cX9_readRow 49 = .ok (.iconst 1, 1) := by decide +kernel
theorem dX9_readRow_50 : decode cX9_readRow 50 = .ok (.iadd, 1) := by decide +kernel
theorem dX9_readRow_51 : decode cX9_readRow 51 = .ok (.putfield 108, 3) := by decide +kernel
theorem dX9_readRow_54 : decode cX9_readRow 54 = .ok (.aload_n 0, 1) := by decide +kernel
theorem dX9_readRow_55 : decode cX9_readRow 55 = .ok (.getfield 108, 3) := by decide +kernel
theorem dX9_readRow_58 : decode cX9_readRow 58 = .ok (.bipush 16, 2) := by decide +kernel
theorem dX9_readRow_60 : decode cX9_readRow 60 = .ok (.if_icmp .ge 11, 3) := by decide +kernel
theorem dX9_readRow_63 : decode cX9_readRow 63 = .ok (.aload_n 0, 1) := by decide +kernel
theorem dX9_readRow_64 : decode cX9_readRow 64 = .ok (.iload_n 1, 1) := by decide +kernel
theorem dX9_readRow_65 : decode cX9_readRow 65 = .ok (.invokevirtual 127, 3) := by decide +kernel
theorem dX9_readRow_68 : decode cX9_readRow 68 = .ok (.goto 5, 3) := by decide +kernel
theorem dX9_readRow_71 : decode cX9_readRow 71 = .ok (.bipush (-9), 2) := by decide +kernel
theorem dX9_readRow_73 : decode cX9_readRow 73 = .ok (.istore_n 2, 1) := by decide +kernel
theorem dX9_readRow_74 : decode cX9_readRow 74 = .ok (.goto (-46), 3) := by decide +kernel
theorem dX9_readRow_77 : decode cX9_readRow 77 = .ok (.aload_n 0, 1) := by decide +kernel
theorem dX9_readRow_78 : decode cX9_readRow 78 = .ok (.getfield 108, 3) := by decide +kernel
theorem dX9_readRow_81 : decode cX9_readRow 81 = .ok (.ifCond .ne 5, 3) := by decide +kernel
theorem dX9_readRow_84 : decode cX9_readRow 84 = .ok (.iconst 0, 1) := by decide +kernel
theorem dX9_readRow_85 : decode cX9_readRow 85 = .ok (.ireturn, 1) := by decide +kernel
theorem dX9_readRow_86 : decode cX9_readRow 86 = .ok (.aload_n 0, 1) := by decide +kernel
theorem dX9_readRow_87 : decode cX9_readRow 87 = .ok (.getfield 111, 3) := by decide +kernel
theorem dX9_readRow_90 : decode cX9_readRow 90 = .ok (.iconst 3, 1) := by decide +kernel
theorem dX9_readRow_91 : decode cX9_readRow 91 = .ok (.if_icmp .ge 31, 3) := by decide +kernel
theorem dX9_readRow_94 : decode cX9_readRow 94 = .ok (.aload_n 0, 1) := by decide +kernel
theorem dX9_readRow_95 : decode cX9_readRow 95 = .ok (.getfield 87, 3) := by decide +kernel
theorem dX9_readRow_98 : decode cX9_readRow 98 = .ok (.iload_n 1, 1) := by decide +kernel
theorem dX9_readRow_99 : decode cX9_readRow 99 = .ok (.if_icmp .ge 23, 3) := by decide +kernel
theorem dX9_readRow_102 : decode cX9_readRow 102 = .ok (.aload_n 0, 1) := by decide +kernel
theorem dX9_readRow_103 : decode cX9_readRow 103 = .ok (.iload_n 1, 1) := by decide +kernel
theorem dX9_readRow_104 : decode cX9_readRow 104 = .ok (.bipush 59, 2) := by decide +kernel
theorem dX9_readRow_106 : decode cX9_readRow 106 = .ok (.invokevirtual 123, 3) := by decide +kernel
theorem dX9_readRow_109 : decode cX9_readRow 109 = .ok (.ifCond .eq 11, 3) := by decide +kernel
theorem dX9_readRow_112 : decode cX9_readRow 112 = .ok (.aload_n 0, 1) := by decide +kernel
theorem dX9_readRow_113 : decode cX9_readRow 113 = .ok (.iload_n 1, 1) := by decide +kernel
theorem dX9_readRow_114 : decode cX9_readRow 114 = .ok (.invokevirtual 130, 3) := by decide +kernel
theorem dX9_readRow_117 : decode cX9_readRow 117 = .ok (.ifCond .ne (-31), 3) := by decide +kernel
theorem dX9_readRow_120 : decode cX9_readRow 120 = .ok (.iconst 0, 1) := by decide +kernel
theorem dX9_readRow_121 : decode cX9_readRow 121 = .ok (.ireturn, 1) := by decide +kernel
theorem dX9_readRow_122 : decode cX9_readRow 122 = .ok (.aload_n 0, 1) := by decide +kernel
theorem dX9_readRow_123 : decode cX9_readRow 123 = .ok (.getfield 87, 3) := by decide +kernel
theorem dX9_readRow_126 : decode cX9_readRow 126 = .ok (.iload_n 1, 1) := by decide +kernel
theorem dX9_readRow_127 : decode cX9_readRow 127 = .ok (.if_icmp .ne 7, 3) := by decide +kernel
theorem dX9_readRow_130 : decode cX9_readRow 130 = .ok (.iconst 1, 1) := by decide +kernel
theorem dX9_readRow_131 : decode cX9_readRow 131 = .ok (.goto 4, 3) := by decide +kernel
theorem dX9_readRow_134 : decode cX9_readRow 134 = .ok (.iconst 0, 1) := by decide +kernel
theorem dX9_readRow_135 : decode cX9_readRow 135 = .ok (.ireturn, 1) := by decide +kernel
set_option maxRecDepth 20000 in
theorem ggX9_readHelper_X9_digit : GoodIn wsX9_readHelper wsX9_digit := goodIn_r _ [10, 1, 2, 11, 12, 9, 13, 14, 15, 16, 17, 18, 19, 20, 21, 22, 23, 24, 25, 26, 27, 28, 29, 30, 31, 32, 33, 34, 35, 36, 37, 38, 39, 40, 41, 42, 43, 44] (by decide +kernel) (by decide +kernel)
set_option maxRecDepth 20000 in
theorem gX9_readHelper_X9_digit : GoodIn wsX9_readHelper (wsV RX9 127 RX9 yX9_digit wsX9_digit) := goodIn_app (goodIn_of _ (by decide +kernel)) ggX9_readHelper_X9_digit
theorem dX9_readHelper_0 : decode cX9_readHelper 0 = .ok (.aload_n 0, 1) := by decide +kernel
theorem dX9_readHelper_1 : decode cX9_readHelper 1 = .ok (.getfield 87, 3) := by decide +kernel
theorem dX9_readHelper_4 : decode cX9_readHelper 4 = .ok (.iload_n 1, 1) := by decide +kernel
theorem dX9_readHelper_5 : decode cX9_readHelper 5 = .ok (.if_icmp .ge 15, 3) := by decide +kernel
theorem dX9_readHelper_8 : decode cX9_readHelper 8 = .ok (.aload_n 0, 1) := by decide +kernel
theorem dX9_readHelper_9 : decode cX9_readHelper 9 = .ok (.getfield 16, 3) := by decide +kernel
theorem dX9_readHelper_12 : decode cX9_readHelper 12 = .ok (.aload_n 0, 1) := by decide +kernel
theorem dX9_readHelper_13 : decode cX9_readHelper 13 = .ok (.getfield 87, 3) := by decide +kernel
theorem dX9_readHelper_16 : decode cX9_readHelper 16 = .ok (.iaload, 1) := by decide +kernel
theorem dX9_readHelper_17 : decode cX9_readHelper 17 = .ok (.goto 4, 3) := by decide +kernel
theorem dX9_readHelper_20 : decode cX9_readHelper 20 = .ok (.iconst 0, 1) := by decide +kernel
theorem dX9_readHelper_21 : decode cX9_readHelper 21 = .ok (.istore_n 2, 1) := by decide +kernel
theorem dX9_readHelper_22 : decode cX9_readHelper 22 = .ok (.aload_n 0, 1) := by decide +kernel
theorem dX9_readHelper_23 : decode cX9_readHelper 23 = .ok (.getfield 50, 3) := by decide +kernel
theorem dX9_readHelper_26 : decode cX9_readHelper 26 = .ok (.aload_n 0, 1) := by decide +kernel
theorem dX9_readHelper_27 : decode cX9_readHelper 27 = .ok (.getfield 111, 3) := by decide +kernel
theorem dX9_readHelper_30 : decode cX9_readHelper 30 = .ok (.iload_n 2, 1) := by decide +kernel
theorem dX9_readHelper_31 : decode cX9_readHelper 31 = .ok (.bipush 112, 2) := by decide +kernel
theorem dX9_readHelper_33 : decode cX9_readHelper 33 = .ok (.if_icmp .ne 7, 3) := by decide +kernel
theorem dX9_readHelper_36 : decode cX9_readHelper 36 = .ok (.iconst 0, 1) := by decide +kernel
theorem dX9_readHelper_37 : decode cX9_readHelper 37 = .ok (.goto 25, 3) := by decide +kernel
theorem dX9_readHelper_40 : decode cX9_readHelper 40 = .ok (.iload_n 2, 1) := by decide +kernel
theorem dX9_readHelper_41 : decode cX9_readHelper 41 = .ok (.bipush 98, 2) := by decide +kernel
theorem dX9_readHelper_43 : decode cX9_readHelper 43 = .ok (.if_icmp .ne 7, 3) := by decide +kernel
theorem dX9_readHelper_46 : decode cX9_readHelper 46 = .ok (.iconst 1, 1) := by decide +kernel
theorem dX9_readHelper_47 : decode cX9_readHelper 47 = .ok (.goto 15, 3) := by decide +kernel
theorem dX9_readHelper_50 : decode cX9_readHelper 50 = .ok (.iload_n 2, 1) := by decide +kernel
theorem dX9_readHelper_51 : decode cX9_readHelper 51 = .ok (.bipush 100, 2) := by decide +kernel
theorem dX9_readHelper_53 : decode cX9_readHelper 53 = .ok (.if_icmp .ne 7, 3) := by decide +kernel
theorem dX9_readHelper_56 : decode cX9_readHelper 56 = .ok (.iconst 2, 1) := by decide +kernel
theorem dX9_readHelper_57 : decode cX9_readHelper 57 = .ok (.goto 5, 3) := by decide +kernel
theorem dX9_readHelper_60 : decode cX9_readHelper 60 = .ok (.bipush (-9), 2) := by decide +kernel
theorem dX9_readHelper_62 : decode cX9_readHelper 62 = .ok (.iastore, 1) := by decide +kernel
theorem dX9_readHelper_63 : decode cX9_readHelper 63 = .ok (.aload_n 0, 1) := by decide +kernel
theorem dX9_readHelper_64 : decode cX9_readHelper 64 = .ok (.getfield 50, 3) := by decide +kernel
theorem dX9_readHelper_67 : decode cX9_readHelper 67 = .ok (.aload_n 0, 1) := by decide +kernel
theorem dX9_readHelper_68 : decode cX9_readHelper 68 = .ok (.getfield 111, 3) := by decide +kernel
theorem dX9_readHelper_71 : decode cX9_readHelper 71 = .ok (.iaload, 1) := by decide +kernel
theorem dX9_readHelper_72 : decode cX9_readHelper 72 = .ok (.bipush (-9), 2) := by decide +kernel
theorem dX9_readHelper_74 : decode cX9_readHelper 74 = .ok (.if_icmp .ne 5, 3) := by decide +kernel
theorem dX9_readHelper_77 : decode cX9_readHelper 77 = .ok (.iconst 0, 1) := by decide +kernel
theorem dX9_readHelper_78 : decode cX9_readHelper 78 = .ok (.ireturn, 1) := by decide +kernel
theorem dX9_readHelper_79 : decode cX9_readHelper 79 = .ok (.aload_n 0, 1) := by decide +kernel
theorem dX9_readHelper_80 : decode cX9_readHelper 80 = .ok (.dup, 1) := by decide +kernel
theorem dX9_readHelper_81 : decode cX9_readHelper 81 = .ok (.getfield 87, 3) := by decide +kernel
theorem dX9_readHelper_84 : decode cX9_readHelper 84 = .ok (.iconst 1, 1) := by decide +kernel
theorem dX9_readHelper_85 : decode cX9_readHelper 85 = .ok (.iadd, 1) := by decide +kernel
theorem dX9_readHelper_86 : decode cX9_readHelper 86 = .ok (.putfield 87, 3) := by decide +kernel
theorem dX9_readHelper_89 : decode cX9_readHelper 89 = .ok (.aload_n 0, 1) := by decide +kernel
theorem dX9_readHelper_90 : decode cX9_readHelper 90 = .ok (.getfield 53, 3) := by decide +kernel
theorem dX9_readHelper_93 : decode cX9_readHelper 93 = .ok (.aload_n 0, 1) := by decide +kernel
theorem dX9_readHelper_94 : decode cX9_readHelper 94 = .ok (.getfield 111, 3) := by decide +kernel
theorem dX9_readHelper_97 : decode cX9_readHelper 97 = .ok (.aload_n 0, 1) := by decide +kernel
theorem dX9_readHelper_98 : decode cX9_readHelper 98 = .ok (.iload_n 1, 1) := by decide +kernel
theorem dX9_readHelper_99 : decode cX9_readHelper 99 = .ok (.invokevirtual 127, 3) := by decide +kernel
theorem dX9_readHelper_102 : decode cX9_readHelper 102 = .ok (.iastore, 1) := by decide +kernel
theorem dX9_readHelper_103 : decode cX9_readHelper 103 = .ok (.aload_n 0, 1) := by decide +kernel
theorem dX9_readHelper_104 : decode cX9_readHelper 104 = .ok (.dup, 1) := by decide +kernel
theorem dX9_readHelper_105 : decode cX9_readHelper 105 = .ok (.getfield 111, 3) := by decide +kernel
theorem dX9_readHelper_108 : decode cX9_readHelper 108 = .ok (.iconst 1, 1) := by decide +kernel
theorem dX9_readHelper_109 : decode cX9_readHelper 109 = .ok (.iadd, 1) := by decide +kernel
theorem dX9_readHelper_110 : decode cX9_readHelper 110 = .ok (.putfield 111, 3) := by decide +kernel
theorem dX9_readHelper_113 : decode cX9_readHelper 113 = .ok (.aload_n 0, 1) := by decide +kernel
theorem dX9_readHelper_114 : decode cX9_readHelper 114 = .ok (.getfield 53, 3) := by decide +kernel
theorem dX9_readHelper_117 : decode cX9_readHelper 117 = .ok (.aload_n 0, 1) := by decide +kernel
theorem dX9_readHelper_118 : decode cX9_readHelper 118 = .ok (.getfield 111, 3) := by decide +kernel
theorem dX9_readHelper_121 : decode cX9_readHelper 121 = .ok (.iconst 1, 1) := by decide +kernel
theorem dX9_readHelper_122 : decode cX9_readHelper 122 = .ok (.isub, 1) := by decide +kernel
theorem dX9_readHelper_123 : decode cX9_readHelper 123 = .ok (.iaload, 1) := by decide +kernel
theorem dX9_readHelper_124 : decode cX9_readHelper 124 = .ok (.bipush (-9), 2) := by decide +kernel
theorem dX9_readHelper_126 : decode cX9_readHelper 126 = .ok (.if_icmp .eq 7, 3) := by decide +kernel
theorem dX9_readHelper_129 : decode cX9_readHelper 129 = .ok (.iconst 1, 1) := by decide +kernel
theorem dX9_readHelper_130 : decode cX9_readHelper 130 = .ok (.goto 4, 3) := by decide +kernel
theorem dX9_readHelper_133 : decode cX9_readHelper 133 = .ok (.iconst 0, 1) := by decide +kernel
theorem dX9_readHelper_134 : decode cX9_readHelper 134 = .ok (.ireturn, 1) := by decide +kernel
theorem dX9_strengthOf_0 : decode cX9_strengthOf 0 = .ok (.aload_n 0, 1) := by decide +kernel
theorem dX9_strengthOf_1 : decode cX9_strengthOf 1 = .ok (.getfield 29, 3) := by decide +kernel
theorem dX9_strengthOf_4 : decode cX9_strengthOf 4 = .ok (.iload_n 1, 1) := by decide +kernel
theorem dX9_strengthOf_5 : decode cX9_strengthOf 5 = .ok (.iaload, 1) := by decide +kernel
theorem dX9_strengthOf_6 : decode cX9_strengthOf 6 = .ok (.ifCond .ne 12, 3) := by decide +kernel
theorem dX9_strengthOf_9 : decode cX9_strengthOf 9 = .ok (.aload_n 0, 1) := by decide +kernel
theorem dX9_strengthOf_10 : decode cX9_strengthOf 10 = .ok (.getfield 32, 3) := by decide +kernel
theorem dX9_strengthOf_13 : decode cX9_strengthOf 13 = .ok (.iload_n 1, 1) := by decide +kernel
theorem dX9_strengthOf_14 : decode cX9_strengthOf 14 = .ok (.iaload, 1) := by decide +kernel
theorem dX9_strengthOf_15 : decode cX9_strengthOf 15 = .ok (.goto 32, 3) := by decide +kernel
theorem dX9_strengthOf_18 : decode cX9_strengthOf 18 = .ok (.aload_n 0, 1) := by decide +kernel
theorem dX9_strengthOf_19 : decode cX9_strengthOf 19 = .ok (.getfield 29, 3) := by decide +kernel
theorem dX9_strengthOf_22 : decode cX9_strengthOf 22 = .ok (.iload_n 1, 1) := by decide +kernel
theorem dX9_strengthOf_23 : decode cX9_strengthOf 23 = .ok (.iaload, 1) := by decide +kernel
theorem dX9_strengthOf_24 : decode cX9_strengthOf 24 = .ok (.iconst 1, 1) := by decide +kernel
theorem dX9_strengthOf_25 : decode cX9_strengthOf 25 = .ok (.if_icmp .ne 14, 3) := by decide +kernel
theorem dX9_strengthOf_28 : decode cX9_strengthOf 28 = .ok (.aload_n 0, 1) := by decide +kernel
theorem dX9_strengthOf_29 : decode cX9_strengthOf 29 = .ok (.getfield 32, 3) := by decide +kernel
theorem dX9_strengthOf_32 : decode cX9_strengthOf 32 = .ok (.iload_n 1, 1) := by decide +kernel
theorem dX9_strengthOf_33 : decode cX9_strengthOf 33 = .ok (.iaload, 1) := by decide +kernel
theorem dX9_strengthOf_34 : decode cX9_strengthOf 34 = .ok (.iconst 1, 1) := by decide +kernel
theorem dX9_strengthOf_35 : decode cX9_strengthOf 35 = .ok (.iadd, 1) := by decide +kernel
theorem dX9_strengthOf_36 : decode cX9_strengthOf 36 = .ok (.goto 11, 3) := by decide +kernel
theorem dX9_strengthOf_39 : decode cX9_strengthOf 39 = .ok (.iconst 2, 1) := by decide +kernel
theorem dX9_strengthOf_40 : decode cX9_strengthOf 40 = .ok (.aload_n 0, 1) := by decide +kernel
theorem dX9_strengthOf_41 : decode cX9_strengthOf 41 = .ok (.getfield 32, 3) := by decide +kernel
theorem dX9_strengthOf_44 : decode cX9_strengthOf 44 = .ok (.iload_n 1, 1) := by decide +kernel
theorem dX9_strengthOf_45 : decode cX9_strengthOf 45 = .ok (.iaload, 1) := by decide +kernel
theorem dX9_strengthOf_46 : decode cX9_strengthOf 46 = .ok (.imul, 1) := by decide +kernel
theorem dX9_strengthOf_47 : decode cX9_strengthOf 47 = .ok (.ireturn, 1) := by decide +kernel
set_option maxRecDepth 20000 in
theorem ggX9_ofHelper_X9_isHelper : GoodIn wsX9_ofHelper wsX9_isHelper := goodIn_r _ [7, 8, 20, 21, 22, 23, 24, 25, 26, 27, 28, 29, 30, 31, 32, 33, 34, 35, 36, 37, 38, 39, 40, 41, 42, 43, 44, 45, 46, 47, 48, 49, 50] (by decide +kernel) (by decide +kernel)
set_option maxRecDepth 20000 in
theorem gX9_ofHelper_X9_isHelper : GoodIn wsX9_ofHelper (wsV RX9 133 RX9 yX9_isHelper wsX9_isHelper) := goodIn_app (goodIn_of _ (by decide +kernel)) ggX9_ofHelper_X9_isHelper
set_option maxRecDepth 20000 in
theorem ggX9_ofHelper_X9_strengthOf : GoodIn wsX9_ofHelper wsX9_strengthOf := goodIn_r _ [12, 1, 2, 20, 21, 22, 23, 24, 25, 26, 27, 28, 29, 30, 31, 32, 33, 34, 35, 36, 37, 38, 39, 40, 41, 42, 43, 44, 45, 46, 47, 48, 49, 50] (by decide +kernel) (by decide +kernel)
set_option maxRecDepth 20000 in
theorem gX9_ofHelper_X9_strengthOf : GoodIn wsX9_ofHelper (wsV RX9 136 RX9 yX9_strengthOf wsX9_strengthOf) := goodIn_app (goodIn_of _ (by decide +kernel)) ggX9_ofHelper_X9_strengthOf
set_option maxRecDepth 20000 in
theorem ggX9_ofHelper_X9_actsOf : GoodIn wsX9_ofHelper wsX9_actsOf := goodIn_r _ [16, 17, 18, 19, 20, 21, 22, 23, 24, 25, 26, 27, 28, 29, 30, 31, 32, 33, 34, 35, 36, 37, 38, 39, 40, 41, 42, 43, 44, 45, 46, 47, 48, 49, 50] (by decide +kernel) (by decide +kernel)
set_option maxRecDepth 20000 in
theorem gX9_ofHelper_X9_actsOf : GoodIn wsX9_ofHelper (wsV RX9 139 RX9 yX9_actsOf wsX9_actsOf) := goodIn_app (goodIn_of _ (by decide +kernel)) ggX9_ofHelper_X9_actsOf
theorem dX9_ofHelper_0 : decode cX9_ofHelper 0 = .ok (.aload_n 0, 1) := by decide +kernel
theorem dX9_ofHelper_1 : decode cX9_ofHelper 1 = .ok (.iload_n 1, 1) := by decide +kernel
theorem dX9_ofHelper_2 : decode cX9_ofHelper 2 = .ok (.invokevirtual 133, 3) := by decide +kernel
theorem dX9_ofHelper_5 : decode cX9_ofHelper 5 = .ok (.ifCond .ne 5, 3) := by decide +kernel
theorem dX9_ofHelper_8 : decode cX9_ofHelper 8 = .ok (.iconst (-1), 1) := by decide +kernel
theorem dX9_ofHelper_9 : decode cX9_ofHelper 9 = .ok (.ireturn, 1) := by decide +kernel
theorem dX9_ofHelper_10 : decode cX9_ofHelper 10 = .ok (.iload_n 2, 1) := by decide +kernel
theorem dX9_ofHelper_11 : decode cX9_ofHelper 11 = .ok (.tableswitch 55 0 3 #[29, 36, 43, 49], 29) := by decide +kernel
theorem dX9_ofHelper_40 : decode cX9_ofHelper 40 = .ok (.aload_n 0, 1) := by decide +kernel
theorem dX9_ofHelper_41 : decode cX9_ofHelper 41 = .ok (.getfield 29, 3) := by decide +kernel
theorem dX9_ofHelper_44 : decode cX9_ofHelper 44 = .ok (.iload_n 1, 1) := by decide +kernel
theorem dX9_ofHelper_45 : decode cX9_ofHelper 45 = .ok (.iaload, 1) := by decide +kernel
theorem dX9_ofHelper_46 : decode cX9_ofHelper 46 = .ok (.ireturn, 1) := by decide +kernel
theorem dX9_ofHelper_47 : decode cX9_ofHelper 47 = .ok (.aload_n 0, 1) := by decide +kernel
theorem dX9_ofHelper_48 : decode cX9_ofHelper 48 = .ok (.getfield 32, 3) := by decide +kernel
theorem dX9_ofHelper_51 : decode cX9_ofHelper 51 = .ok (.iload_n 1, 1) := by decide +kernel
theorem dX9_ofHelper_52 : decode cX9_ofHelper 52 = .ok (.iaload, 1) := by decide +kernel
theorem dX9_ofHelper_53 : decode cX9_ofHelper 53 = .ok (.ireturn, 1) := by decide +kernel
theorem dX9_ofHelper_54 : decode cX9_ofHelper 54 = .ok (.aload_n 0, 1) := by decide +kernel
theorem dX9_ofHelper_55 : decode cX9_ofHelper 55 = .ok (.iload_n 1, 1) := by decide +kernel
theorem dX9_ofHelper_56 : decode cX9_ofHelper 56 = .ok (.invokevirtual 136, 3) := by decide +kernel
theorem dX9_ofHelper_59 : decode cX9_ofHelper 59 = .ok (.ireturn, 1) := by decide +kernel
theorem dX9_ofHelper_60 : decode cX9_ofHelper 60 = .ok (.aload_n 0, 1) := by decide +kernel
theorem dX9_ofHelper_61 : decode cX9_ofHelper 61 = .ok (.iload_n 1, 1) := by decide +kernel
theorem dX9_ofHelper_62 : decode cX9_ofHelper 62 = .ok (.invokevirtual 139, 3) := by decide +kernel
theorem dX9_ofHelper_65 : decode cX9_ofHelper 65 = .ok (.ireturn, 1) := by decide +kernel
theorem dX9_ofHelper_66 : decode cX9_ofHelper 66 = .ok (.bipush (-2), 2) := by decide +kernel
theorem dX9_ofHelper_68 : decode cX9_ofHelper 68 = .ok (.ireturn, 1) := by decide +kernel
theorem dX9_actsOf_0 : decode cX9_actsOf 0 = .ok (.iconst 0, 1) := by decide +kernel
theorem dX9_actsOf_1 : decode cX9_actsOf 1 = .ok (.istore_n 2, 1) := by decide +kernel
theorem dX9_actsOf_2 : decode cX9_actsOf 2 = .ok (.iconst 0, 1) := by decide +kernel
theorem dX9_actsOf_3 : decode cX9_actsOf 3 = .ok (.istore_n 3, 1) := by decide +kernel
theorem dX9_actsOf_4 : decode cX9_actsOf 4 = .ok (.iload_n 3, 1) := by decide +kernel
theorem dX9_actsOf_5 : decode cX9_actsOf 5 = .ok (.aload_n 0, 1) := by decide +kernel
theorem dX9_actsOf_6 : decode cX9_actsOf 6 = .ok (.getfield 120, 3) := by decide +kernel
theorem dX9_actsOf_9 : decode cX9_actsOf 9 = .ok (.if_icmp .ge 39, 3) := by decide +kernel
theorem dX9_actsOf_12 : decode cX9_actsOf 12 = .ok (.iload_n 2, 1) := by decide +kernel
theorem dX9_actsOf_13 : decode cX9_actsOf 13 = .ok (.aload_n 0, 1) := by decide +kernel
theorem dX9_actsOf_14 : decode cX9_actsOf 14 = .ok (.getfield 35, 3) := by decide +kernel
theorem dX9_actsOf_17 : decode cX9_actsOf 17 = .ok (.iload_n 3, 1) := by decide +kernel
theorem dX9_actsOf_18 : decode cX9_actsOf 18 = .ok (.iaload, 1) := by decide +kernel
theorem dX9_actsOf_19 : decode cX9_actsOf 19 = .ok (.iconst 3, 1) := by decide +kernel
theorem dX9_actsOf_20 : decode cX9_actsOf 20 = .ok (.if_icmp .lt 19, 3) := by decide +kernel
theorem dX9_actsOf_23 : decode cX9_actsOf 23 = .ok (.aload_n 0, 1) := by decide +kernel
theorem dX9_actsOf_24 : decode cX9_actsOf 24 = .ok (.getfield 44, 3) := by decide +kernel
theorem dX9_actsOf_27 : decode cX9_actsOf 27 = .ok (.iload_n 3, 1) := by decide +kernel
theorem dX9_actsOf_28 : decode cX9_actsOf 28 = .ok (.laload, 1) := by decide +kernel
theorem dX9_actsOf_29 : decode cX9_actsOf 29 = .ok (.iload_n 1, 1) := by decide +kernel
theorem dX9_actsOf_30 : decode cX9_actsOf 30 = .ok (.i2l, 1) := by decide +kernel
theorem dX9_actsOf_31 : decode cX9_actsOf 31 = .ok (.lcmp, 1) := by decide +kernel
theorem dX9_actsOf_32 : decode cX9_actsOf 32 = .ok (.ifCond .ne 7, 3) := by decide +kernel
theorem dX9_actsOf_35 : decode cX9_actsOf 35 = .ok (.iconst 1, 1) := by decide +kernel
theorem dX9_actsOf_36 : decode cX9_actsOf 36 = .ok (.goto 4, 3) := by decide +kernel
theorem dX9_actsOf_39 : decode cX9_actsOf 39 = .ok (.iconst 0, 1) := by decide +kernel
theorem dX9_actsOf_40 : decode cX9_actsOf 40 = .ok (.iadd, 1) := by decide +kernel
theorem dX9_actsOf_41 : decode cX9_actsOf 41 = .ok (.istore_n 2, 1) := by decide +kernel
theorem dX9_actsOf_42 : decode cX9_actsOf 42 = .ok (.iinc 3 1, 3) := by decide +kernel
theorem dX9_actsOf_45 : decode cX9_actsOf 45 = .ok (.goto (-41), 3) := by decide +kernel
theorem dX9_actsOf_48 : decode cX9_actsOf 48 = .ok (.iload_n 2, 1) := by decide +kernel
theorem dX9_actsOf_49 : decode cX9_actsOf 49 = .ok (.ireturn, 1) := by decide +kernel
set_option maxRecDepth 20000 in
theorem ggX9_at_X9_isCell : GoodIn wsX9_at wsX9_isCell := goodIn_r _ [8, 9, 13, 14, 15, 16, 17, 18, 19, 20, 21, 22, 23, 24, 25, 26, 27, 28, 29, 30, 31, 32, 33, 34, 35, 36, 37, 38, 39, 40, 41, 42, 43] (by decide +kernel) (by decide +kernel)
set_option maxRecDepth 20000 in
theorem gX9_at_X9_isCell : GoodIn wsX9_at (wsV RX9 142 RX9 yX9_isCell wsX9_isCell) := goodIn_app (goodIn_of _ (by decide +kernel)) ggX9_at_X9_isCell
set_option maxRecDepth 20000 in
theorem ggX9_at_X9_within : GoodIn wsX9_at wsX9_within := goodIn_r _ [12] (by decide +kernel) (by decide +kernel)
set_option maxRecDepth 20000 in
theorem gX9_at_X9_within : GoodIn wsX9_at (va_wsS RX9 77 yX9_within wsX9_within) := goodIn_app (goodIn_of _ (by decide +kernel)) ggX9_at_X9_within
theorem dX9_at_0 : decode cX9_at 0 = .ok (.aload_n 0, 1) := by decide +kernel
theorem dX9_at_1 : decode cX9_at 1 = .ok (.iload_n 1, 1) := by decide +kernel
theorem dX9_at_2 : decode cX9_at 2 = .ok (.invokevirtual 142, 3) := by decide +kernel
theorem dX9_at_5 : decode cX9_at 5 = .ok (.ifCond .eq 12, 3) := by decide +kernel
theorem dX9_at_8 : decode cX9_at 8 = .ok (.iload_n 2, 1) := by decide +kernel
theorem dX9_at_9 : decode cX9_at 9 = .ok (.iconst 0, 1) := by decide +kernel
theorem dX9_at_10 : decode cX9_at 10 = .ok (.iconst 1, 1) := by decide +kernel
theorem dX9_at_11 : decode cX9_at 11 = .ok (.invokestatic 77, 3) := by decide +kernel
theorem dX9_at_14 : decode cX9_at 14 = .ok (.ifCond .ne 7, 3) := by decide +kernel
theorem dX9_at_17 : decode cX9_at 17 = .ok (.ldc2_w 75, 3) := by decide +kernel
theorem dX9_at_20 : decode cX9_at 20 = .ok (.lreturn, 1) := by decide +kernel
theorem dX9_at_21 : decode cX9_at 21 = .ok (.iload_n 2, 1) := by decide +kernel
theorem dX9_at_22 : decode cX9_at 22 = .ok (.ifCond .ne 12, 3) := by decide +kernel
theorem dX9_at_25 : decode cX9_at 25 = .ok (.aload_n 0, 1) := by decide +kernel
theorem dX9_at_26 : decode cX9_at 26 = .ok (.getfield 19, 3) := by decide +kernel
theorem dX9_at_29 : decode cX9_at 29 = .ok (.iload_n 1, 1) := by decide +kernel
theorem dX9_at_30 : decode cX9_at 30 = .ok (.laload, 1) := by decide +kernel
theorem dX9_at_31 : decode cX9_at 31 = .ok (.goto 9, 3) := by decide +kernel
theorem dX9_at_34 : decode cX9_at 34 = .ok (.aload_n 0, 1) := by decide +kernel
theorem dX9_at_35 : decode cX9_at 35 = .ok (.getfield 23, 3) := by decide +kernel
theorem dX9_at_38 : decode cX9_at 38 = .ok (.iload_n 1, 1) := by decide +kernel
theorem dX9_at_39 : decode cX9_at 39 = .ok (.laload, 1) := by decide +kernel
theorem dX9_at_40 : decode cX9_at 40 = .ok (.lreturn, 1) := by decide +kernel
theorem dX9_changed_0 : decode cX9_changed 0 = .ok (.iload_n 3, 1) := by decide +kernel
theorem dX9_changed_1 : decode cX9_changed 1 = .ok (.ifCond .ne 8, 3) := by decide +kernel
theorem dX9_changed_4 : decode cX9_changed 4 = .ok (.lload_n 1, 1) := by decide +kernel
theorem dX9_changed_5 : decode cX9_changed 5 = .ok (.lload 4, 2) := by decide +kernel
theorem dX9_changed_7 : decode cX9_changed 7 = .ok (.ladd, 1) := by decide +kernel
theorem dX9_changed_8 : decode cX9_changed 8 = .ok (.lreturn, 1) := by decide +kernel
theorem dX9_changed_9 : decode cX9_changed 9 = .ok (.iload_n 3, 1) := by decide +kernel
theorem dX9_changed_10 : decode cX9_changed 10 = .ok (.iconst 1, 1) := by decide +kernel
theorem dX9_changed_11 : decode cX9_changed 11 = .ok (.if_icmp .ne 17, 3) := by decide +kernel
theorem dX9_changed_14 : decode cX9_changed 14 = .ok (.lload_n 1, 1) := by decide +kernel
theorem dX9_changed_15 : decode cX9_changed 15 = .ok (.lload 4, 2) := by decide +kernel
theorem dX9_changed_17 : decode cX9_changed 17 = .ok (.lcmp, 1) := by decide +kernel
theorem dX9_changed_18 : decode cX9_changed 18 = .ok (.ifCond .le 8, 3) := by decide +kernel
theorem dX9_changed_21 : decode cX9_changed 21 = .ok (.lload 4, 2) := by decide +kernel
theorem dX9_changed_23 : decode cX9_changed 23 = .ok (.goto 4, 3) := by decide +kernel
theorem dX9_changed_26 : decode cX9_changed 26 = .ok (.lload_n 1, 1) := by decide +kernel
theorem dX9_changed_27 : decode cX9_changed 27 = .ok (.lreturn, 1) := by decide +kernel
theorem dX9_changed_28 : decode cX9_changed 28 = .ok (.lload_n 1, 1) := by decide +kernel
theorem dX9_changed_29 : decode cX9_changed 29 = .ok (.lload 4, 2) := by decide +kernel
theorem dX9_changed_31 : decode cX9_changed 31 = .ok (.lcmp, 1) := by decide +kernel
theorem dX9_changed_32 : decode cX9_changed 32 = .ok (.ifCond .ge 8, 3) := by decide +kernel
theorem dX9_changed_35 : decode cX9_changed 35 = .ok (.lload 4, 2) := by decide +kernel
theorem dX9_changed_37 : decode cX9_changed 37 = .ok (.goto 4, 3) := by decide +kernel
theorem dX9_changed_40 : decode cX9_changed 40 = .ok (.lload_n 1, 1) := by decide +kernel
theorem dX9_changed_41 : decode cX9_changed 41 = .ok (.lreturn, 1) := by decide +kernel
set_option maxRecDepth 20000 in
theorem ggX9_does_X9_strengthOf : GoodIn wsX9_does wsX9_strengthOf := goodIn_r _ [7, 8, 9, 14, 15, 16, 17, 18, 19, 20, 21, 22, 23, 24, 25, 26, 27, 28, 29, 30, 31, 32, 33, 34, 35, 36, 37, 38, 39, 40, 41, 42, 43, 44] (by decide +kernel) (by decide +kernel)
set_option maxRecDepth 20000 in
theorem gX9_does_X9_strengthOf : GoodIn wsX9_does (wsV RX9 136 RX9 yX9_strengthOf wsX9_strengthOf) := goodIn_app (goodIn_of _ (by decide +kernel)) ggX9_does_X9_strengthOf
set_option maxRecDepth 20000 in
theorem ggX9_does_X9_changed : GoodIn wsX9_does wsX9_changed := goodIn_r _ [13] (by decide +kernel) (by decide +kernel)
set_option maxRecDepth 20000 in
theorem gX9_does_X9_changed : GoodIn wsX9_does (wsV RX9 145 RX9 yX9_changed wsX9_changed) := goodIn_app (goodIn_of _ (by decide +kernel)) ggX9_does_X9_changed
theorem dX9_does_0 : decode cX9_does 0 = .ok (.iload_n 1, 1) := by decide +kernel
theorem dX9_does_1 : decode cX9_does 1 = .ok (.iconst 3, 1) := by decide +kernel
theorem dX9_does_2 : decode cX9_does 2 = .ok (.if_icmp .lt 7, 3) := by decide +kernel
theorem dX9_does_5 : decode cX9_does 5 = .ok (.iconst 0, 1) := by decide +kernel
theorem dX9_does_6 : decode cX9_does 6 = .ok (.goto 4, 3) := by decide +kernel
theorem dX9_does_9 : decode cX9_does 9 = .ok (.iload_n 1, 1) := by decide +kernel
theorem dX9_does_10 : decode cX9_does 10 = .ok (.istore 6, 2) := by decide +kernel
theorem dX9_does_12 : decode cX9_does 12 = .ok (.iload_n 1, 1) := by decide +kernel
theorem dX9_does_13 : decode cX9_does 13 = .ok (.iconst 3, 1) := by decide +kernel
theorem dX9_does_14 : decode cX9_does 14 = .ok (.if_icmp .ne 14, 3) := by decide +kernel
theorem dX9_does_17 : decode cX9_does 17 = .ok (.aload_n 0, 1) := by decide +kernel
theorem dX9_does_18 : decode cX9_does 18 = .ok (.lload 4, 2) := by decide +kernel
theorem dX9_does_20 : decode cX9_does 20 = .ok (.l2i, 1) := by decide +kernel
theorem dX9_does_21 : decode cX9_does 21 = .ok (.invokevirtual 136, 3) := by decide +kernel
theorem dX9_does_24 : decode cX9_does 24 = .ok (.i2l, 1) := by decide +kernel
theorem dX9_does_25 : decode cX9_does 25 = .ok (.goto 22, 3) := by decide +kernel
theorem dX9_does_28 : decode cX9_does 28 = .ok (.iload_n 1, 1) := by decide +kernel
theorem dX9_does_29 : decode cX9_does 29 = .ok (.iconst 4, 1) := by decide +kernel
theorem dX9_does_30 : decode cX9_does 30 = .ok (.if_icmp .ne 15, 3) := by decide +kernel
theorem dX9_does_33 : decode cX9_does 33 = .ok (.aload_n 0, 1) := by decide +kernel
theorem dX9_does_34 : decode cX9_does 34 = .ok (.lload 4, 2) := by decide +kernel
theorem dX9_does_36 : decode cX9_does 36 = .ok (.l2i, 1) := by decide +kernel
theorem dX9_does_37 : decode cX9_does 37 = .ok (.invokevirtual 136, 3) := by decide +kernel
theorem dX9_does_40 : decode cX9_does 40 = .ok (.ineg, 1) := by decide +kernel
theorem dX9_does_41 : decode cX9_does 41 = .ok (.i2l, 1) := by decide +kernel
theorem dX9_does_42 : decode cX9_does 42 = .ok (.goto 5, 3) := by decide +kernel
theorem dX9_does_45 : decode cX9_does 45 = .ok (.lload 4, 2) := by decide +kernel
theorem dX9_does_47 : decode cX9_does 47 = .ok (.lstore 7, 2) := by decide +kernel
theorem dX9_does_49 : decode cX9_does 49 = .ok (.iconst 0, 1) := by decide +kernel
theorem dX9_does_50 : decode cX9_does 50 = .ok (.istore 9, 2) := by decide +kernel
theorem dX9_does_52 : decode cX9_does 52 = .ok (.iload_n 2, 1) := by decide +kernel
theorem dX9_does_53 : decode cX9_does 53 = .ok (.istore 10, 2) := by decide +kernel
theorem dX9_does_55 : decode cX9_does 55 = .ok (.iload 10, 2) := by decide +kernel
theorem dX9_does_57 : decode cX9_does 57 = .ok (.iload_n 3, 1) := by decide +kernel
theorem dX9_does_58 : decode cX9_does 58 = .ok (.if_icmp .gt 90, 3) := by decide +kernel
theorem dX9_does_61 : decode cX9_does 61 = .ok (.aload_n 0, 1) := by decide +kernel
theorem dX9_does_62 : decode cX9_does 62 = .ok (.aload_n 0, 1) := by decide +kernel
theorem dX9_does_63 : decode cX9_does 63 = .ok (.getfield 19, 3) := by decide +kernel
theorem dX9_does_66 : decode cX9_does 66 = .ok (.iload 10, 2) := by decide +kernel
theorem dX9_does_68 : decode cX9_does 68 = .ok (.laload, 1) := by decide +kernel
theorem dX9_does_69 : decode cX9_does 69 = .ok (.iload 6, 2) := by decide +kernel
theorem dX9_does_71 : decode cX9_does 71 = .ok (.lload 7, 2) := by decide +kernel
theorem dX9_does_73 : decode cX9_does 73 = .ok (.invokevirtual 145, 3) := by decide +kernel
theorem dX9_does_76 : decode cX9_does 76 = .ok (.lstore 11, 2) := by decide +kernel
theorem dX9_does_78 : decode cX9_does 78 = .ok (.iload 9, 2) := by decide +kernel
theorem dX9_does_80 : decode cX9_does 80 = .ok (.lload 11, 2) := by decide +kernel
theorem dX9_does_82 : decode cX9_does 82 = .ok (.aload_n 0, 1) := by decide +kernel
theorem dX9_does_83 : decode cX9_does 83 = .ok (.getfield 19, 3) := by decide +kernel
theorem dX9_does_86 : decode cX9_does 86 = .ok (.iload 10, 2) := by decide +kernel
theorem dX9_does_88 : decode cX9_does 88 = .ok (.laload, 1) := by decide +kernel
theorem dX9_does_89 : decode cX9_does 89 = .ok (.lcmp, 1) := by decide +kernel
theorem dX9_does_90 : decode cX9_does 90 = .ok (.ifCond .ne 7, 3) := by decide +kernel
theorem dX9_does_93 : decode cX9_does 93 = .ok (.iconst 0, 1) := by decide +kernel
theorem dX9_does_94 : decode cX9_does 94 = .ok (.goto 4, 3) := by decide +kernel
theorem dX9_does_97 : decode cX9_does 97 = .ok (.iconst 1, 1) := by decide +kernel
theorem dX9_does_98 : decode cX9_does 98 = .ok (.iadd, 1) := by decide +kernel
theorem dX9_does_99 : decode cX9_does 99 = .ok (.istore 9, 2) := by decide +kernel
theorem dX9_does_101 : decode cX9_does 101 = .ok (.aload_n 0, 1) := by decide +kernel
theorem dX9_does_102 : decode cX9_does 102 = .ok (.getfield 19, 3) := by decide +kernel
theorem dX9_does_105 : decode cX9_does 105 = .ok (.iload 10, 2) := by decide +kernel
theorem dX9_does_107 : decode cX9_does 107 = .ok (.lload 11, 2) := by decide +kernel
theorem dX9_does_109 : decode cX9_does 109 = .ok (.lastore, 1) := by decide +kernel
theorem dX9_does_110 : decode cX9_does 110 = .ok (.aload_n 0, 1) := by decide +kernel
theorem dX9_does_111 : decode cX9_does 111 = .ok (.getfield 23, 3) := by decide +kernel
theorem dX9_does_114 : decode cX9_does 114 = .ok (.iload 10, 2) := by decide +kernel
theorem dX9_does_116 : decode cX9_does 116 = .ok (.lload 11, 2) := by decide +kernel
theorem dX9_does_118 : decode cX9_does 118 = .ok (.aload_n 0, 1) := by decide +kernel
theorem dX9_does_119 : decode cX9_does 119 = .ok (.getfield 23, 3) := by decide +kernel
theorem dX9_does_122 : decode cX9_does 122 = .ok (.iload 10, 2) := by decide +kernel
theorem dX9_does_124 : decode cX9_does 124 = .ok (.laload, 1) := by decide +kernel
theorem dX9_does_125 : decode cX9_does 125 = .ok (.lcmp, 1) := by decide +kernel
theorem dX9_does_126 : decode cX9_does 126 = .ok (.ifCond .le 8, 3) := by decide +kernel
theorem dX9_does_129 : decode cX9_does 129 = .ok (.lload 11, 2) := by decide +kernel
theorem dX9_does_131 : decode cX9_does 131 = .ok (.goto 10, 3) := by decide +kernel
theorem dX9_does_134 : decode cX9_does 134 = .ok (.aload_n 0, 1) := by decide +kernel
theorem dX9_does_135 : decode cX9_does 135 = .ok (.getfield 23, 3) := by decide +kernel
theorem dX9_does_138 : decode cX9_does 138 = .ok (.iload 10, 2) := by decide +kernel
theorem dX9_does_140 : decode cX9_does 140 = .ok (.laload, 1) := by decide +kernel
theorem dX9_does_141 : decode cX9_does 141 = .ok (.lastore, 1) := by decide +kernel
theorem dX9_does_142 : decode cX9_does 142 = .ok (.iinc 10 1, 3) := by decide +kernel
theorem dX9_does_145 : decode cX9_does 145 = .ok (.goto (-90), 3) := by decide +kernel
theorem dX9_does_148 : decode cX9_does 148 = .ok (.iload 9, 2) := by decide +kernel
theorem dX9_does_150 : decode cX9_does 150 = .ok (.ireturn, 1) := by decide +kernel
theorem dX9_writes_0 : decode cX9_writes 0 = .ok (.aload_n 0, 1) := by decide +kernel
theorem dX9_writes_1 : decode cX9_writes 1 = .ok (.getfield 35, 3) := by decide +kernel
theorem dX9_writes_4 : decode cX9_writes 4 = .ok (.aload_n 0, 1) := by decide +kernel
theorem dX9_writes_5 : decode cX9_writes 5 = .ok (.getfield 120, 3) := by decide +kernel
theorem dX9_writes_8 : decode cX9_writes 8 = .ok (.iload_n 1, 1) := by decide +kernel
theorem dX9_writes_9 : decode cX9_writes 9 = .ok (.iastore, 1) := by decide +kernel
theorem dX9_writes_10 : decode cX9_writes 10 = .ok (.aload_n 0, 1) := by decide +kernel
theorem dX9_writes_11 : decode cX9_writes 11 = .ok (.getfield 38, 3) := by decide +kernel
theorem dX9_writes_14 : decode cX9_writes 14 = .ok (.aload_n 0, 1) := by decide +kernel
theorem dX9_writes_15 : decode cX9_writes 15 = .ok (.getfield 120, 3) := by decide +kernel
theorem dX9_writes_18 : decode cX9_writes 18 = .ok (.iload_n 2, 1) := by decide +kernel
theorem dX9_writes_19 : decode cX9_writes 19 = .ok (.iastore, 1) := by decide +kernel
theorem dX9_writes_20 : decode cX9_writes 20 = .ok (.aload_n 0, 1) := by decide +kernel
theorem dX9_writes_21 : decode cX9_writes 21 = .ok (.getfield 41, 3) := by decide +kernel
theorem dX9_writes_24 : decode cX9_writes 24 = .ok (.aload_n 0, 1) := by decide +kernel
theorem dX9_writes_25 : decode cX9_writes 25 = .ok (.getfield 120, 3) := by decide +kernel
theorem dX9_writes_28 : decode cX9_writes 28 = .ok (.iload_n 3, 1) := by decide +kernel
theorem dX9_writes_29 : decode cX9_writes 29 = .ok (.iastore, 1) := by decide +kernel
theorem dX9_writes_30 : decode cX9_writes 30 = .ok (.aload_n 0, 1) := by decide +kernel
theorem dX9_writes_31 : decode cX9_writes 31 = .ok (.getfield 44, 3) := by decide +kernel
theorem dX9_writes_34 : decode cX9_writes 34 = .ok (.aload_n 0, 1) := by decide +kernel
theorem dX9_writes_35 : decode cX9_writes 35 = .ok (.getfield 120, 3) := by decide +kernel
theorem dX9_writes_38 : decode cX9_writes 38 = .ok (.lload 4, 2) := by decide +kernel
theorem dX9_writes_40 : decode cX9_writes 40 = .ok (.lastore, 1) := by decide +kernel
theorem dX9_writes_41 : decode cX9_writes 41 = .ok (.aload_n 0, 1) := by decide +kernel
theorem dX9_writes_42 : decode cX9_writes 42 = .ok (.dup, 1) := by decide +kernel
theorem dX9_writes_43 : decode cX9_writes 43 = .ok (.getfield 120, 3) := by decide +kernel
theorem dX9_writes_46 : decode cX9_writes 46 = .ok (.iconst 1, 1) := by decide +kernel
theorem dX9_writes_47 : decode cX9_writes 47 = .ok (.iadd, 1) := by decide +kernel
theorem dX9_writes_48 : decode cX9_writes 48 = .ok (.putfield 120, 3) := by decide +kernel
theorem dX9_writes_51 : decode cX9_writes 51 = .ok (.return_, 1) := by decide +kernel
set_option maxRecDepth 20000 in
theorem ggX9_refused_X9_isCell : GoodIn wsX9_refused wsX9_isCell := goodIn_r _ [8, 9, 13, 14, 15, 16, 17, 18, 19, 20, 21, 22, 23, 24, 25, 26, 27, 28, 29, 30, 31, 32, 33, 34, 35, 36, 37, 38, 39, 40, 41, 42, 43] (by decide +kernel) (by decide +kernel)
set_option maxRecDepth 20000 in
theorem gX9_refused_X9_isCell : GoodIn wsX9_refused (wsV RX9 142 RX9 yX9_isCell wsX9_isCell) := goodIn_app (goodIn_of _ (by decide +kernel)) ggX9_refused_X9_isCell
set_option maxRecDepth 20000 in
theorem ggX9_refused_X9_isBetween : GoodIn wsX9_refused wsX9_isBetween := goodIn_r _ [12] (by decide +kernel) (by decide +kernel)
set_option maxRecDepth 20000 in
theorem gX9_refused_X9_isBetween : GoodIn wsX9_refused (va_wsS RX9 153 yX9_isBetween wsX9_isBetween) := goodIn_app (goodIn_of _ (by decide +kernel)) ggX9_refused_X9_isBetween
theorem dX9_refused_0 : decode cX9_refused 0 = .ok (.aload_n 0, 1) := by decide +kernel
theorem dX9_refused_1 : decode cX9_refused 1 = .ok (.iload_n 1, 1) := by decide +kernel
theorem dX9_refused_2 : decode cX9_refused 2 = .ok (.invokevirtual 142, 3) := by decide +kernel
theorem dX9_refused_5 : decode cX9_refused 5 = .ok (.ifCond .eq 11, 3) := by decide +kernel
theorem dX9_refused_8 : decode cX9_refused 8 = .ok (.aload_n 0, 1) := by decide +kernel
theorem dX9_refused_9 : decode cX9_refused 9 = .ok (.iload_n 2, 1) := by decide +kernel
theorem dX9_refused_10 : decode cX9_refused 10 = .ok (.invokevirtual 142, 3) := by decide +kernel
theorem dX9_refused_13 : decode cX9_refused 13 = .ok (.ifCond .ne 5, 3) := by decide +kernel
theorem dX9_refused_16 : decode cX9_refused 16 = .ok (.iconst (-1), 1) := by decide +kernel
theorem dX9_refused_17 : decode cX9_refused 17 = .ok (.ireturn, 1) := by decide +kernel
theorem dX9_refused_18 : decode cX9_refused 18 = .ok (.iload_n 1, 1) := by decide +kernel
theorem dX9_refused_19 : decode cX9_refused 19 = .ok (.iload_n 2, 1) := by decide +kernel
theorem dX9_refused_20 : decode cX9_refused 20 = .ok (.if_icmp .gt 16, 3) := by decide +kernel
theorem dX9_refused_23 : decode cX9_refused 23 = .ok (.lload_n 3, 1) := by decide +kernel
theorem dX9_refused_24 : decode cX9_refused 24 = .ok (.ldc2_w 149, 3) := by decide +kernel
theorem dX9_refused_27 : decode cX9_refused 27 = .ok (.ldc2_w 151, 3) := by decide +kernel
theorem dX9_refused_30 : decode cX9_refused 30 = .ok (.invokestatic 153, 3) := by decide +kernel
theorem dX9_refused_33 : decode cX9_refused 33 = .ok (.ifCond .ne 8, 3) := by decide +kernel
theorem dX9_refused_36 : decode cX9_refused 36 = .ok (.bipush (-2), 2) := by decide +kernel
theorem dX9_refused_38 : decode cX9_refused 38 = .ok (.goto 18, 3) := by decide +kernel
theorem dX9_refused_41 : decode cX9_refused 41 = .ok (.aload_n 0, 1) := by decide +kernel
theorem dX9_refused_42 : decode cX9_refused 42 = .ok (.getfield 120, 3) := by decide +kernel
theorem dX9_refused_45 : decode cX9_refused 45 = .ok (.bipush 24, 2) := by decide +kernel
theorem dX9_refused_47 : decode cX9_refused 47 = .ok (.if_icmp .ne 8, 3) := by decide +kernel
theorem dX9_refused_50 : decode cX9_refused 50 = .ok (.bipush (-4), 2) := by decide +kernel
theorem dX9_refused_52 : decode cX9_refused 52 = .ok (.goto 4, 3) := by decide +kernel
theorem dX9_refused_55 : decode cX9_refused 55 = .ok (.iconst 0, 1) := by decide +kernel
theorem dX9_refused_56 : decode cX9_refused 56 = .ok (.ireturn, 1) := by decide +kernel
set_option maxRecDepth 20000 in
theorem ggX9_add_X9_refused : GoodIn wsX9_add wsX9_refused := goodIn_r _ [6, 7, 8, 1, 9, 10, 11, 5, 12, 13, 14, 15, 16, 41, 42, 43, 44, 45, 46, 47, 48, 49, 50, 51, 52, 53, 54, 55, 56, 57, 58, 59, 60, 61, 62, 63, 64, 65, 66, 67, 68, 69, 70, 71] (by decide +kernel) (by decide +kernel)
set_option maxRecDepth 20000 in
theorem gX9_add_X9_refused : GoodIn wsX9_add (wsV RX9 157 RX9 yX9_refused wsX9_refused) := goodIn_app (goodIn_of _ (by decide +kernel)) ggX9_add_X9_refused
set_option maxRecDepth 20000 in
theorem ggX9_add_X9_does : GoodIn wsX9_add wsX9_does := goodIn_r _ [20, 21, 22, 23, 24, 25, 5, 26, 27, 28, 29, 30, 31, 32, 41, 42, 43, 44, 45, 46, 47, 48, 49, 50, 51, 52, 53, 54, 55, 56, 57, 58, 59, 60, 61, 62, 63, 64, 65, 66, 67, 68, 69, 70, 71] (by decide +kernel) (by decide +kernel)
set_option maxRecDepth 20000 in
theorem gX9_add_X9_does : GoodIn wsX9_add (wsV RX9 161 RX9 yX9_does wsX9_does) := goodIn_app (goodIn_of _ (by decide +kernel)) ggX9_add_X9_does
set_option maxRecDepth 20000 in
theorem ggX9_add_X9_writes : GoodIn wsX9_add wsX9_writes := goodIn_r _ [36, 37, 1, 38, 39, 40, 41, 42, 43, 44, 45, 46, 47, 48, 49, 50, 51, 52, 53, 54, 55, 56, 57, 58, 59, 60, 61, 62, 63, 64, 65, 66, 67, 68, 69, 70, 71] (by decide +kernel) (by decide +kernel)
set_option maxRecDepth 20000 in
theorem gX9_add_X9_writes : GoodIn wsX9_add (wsV RX9 165 RX9 yX9_writes wsX9_writes) := goodIn_app (goodIn_of _ (by decide +kernel)) ggX9_add_X9_writes
theorem dX9_add_0 : decode cX9_add 0 = .ok (.aload_n 0, 1) := by decide +kernel
theorem dX9_add_1 : decode cX9_add 1 = .ok (.iload_n 1, 1) := by decide +kernel
theorem dX9_add_2 : decode cX9_add 2 = .ok (.iload_n 2, 1) := by decide +kernel
theorem dX9_add_3 : decode cX9_add 3 = .ok (.lload_n 3, 1) := by decide +kernel
theorem dX9_add_4 : decode cX9_add 4 = .ok (.invokevirtual 157, 3) := by decide +kernel
theorem dX9_add_7 : decode cX9_add 7 = .ok (.istore 5, 2) := by decide +kernel
theorem dX9_add_9 : decode cX9_add 9 = .ok (.iload 5, 2) := by decide +kernel
theorem dX9_add_11 : decode cX9_add 11 = .ok (.ifCond .eq 6, 3) := by decide +kernel
theorem dX9_add_14 : decode cX9_add 14 = .ok (.iload 5, 2) := by decide +kernel
theorem dX9_add_16 : decode cX9_add 16 = .ok (.ireturn, 1) := by decide +kernel
theorem dX9_add_17 : decode cX9_add 17 = .ok (.aload_n 0, 1) := by decide +kernel
theorem dX9_add_18 : decode cX9_add 18 = .ok (.iconst 0, 1) := by decide +kernel
theorem dX9_add_19 : decode cX9_add 19 = .ok (.iload_n 1, 1) := by decide +kernel
theorem dX9_add_20 : decode cX9_add 20 = .ok (.iload_n 2, 1) := by decide +kernel
theorem dX9_add_21 : decode cX9_add 21 = .ok (.lload_n 3, 1) := by decide +kernel
theorem dX9_add_22 : decode cX9_add 22 = .ok (.invokevirtual 161, 3) := by decide +kernel
theorem dX9_add_25 : decode cX9_add 25 = .ok (.pop, 1) := by decide +kernel
theorem dX9_add_26 : decode cX9_add 26 = .ok (.aload_n 0, 1) := by decide +kernel
theorem dX9_add_27 : decode cX9_add 27 = .ok (.iconst 0, 1) := by decide +kernel
theorem dX9_add_28 : decode cX9_add 28 = .ok (.iload_n 1, 1) := by decide +kernel
theorem dX9_add_29 : decode cX9_add 29 = .ok (.iload_n 2, 1) := by decide +kernel
theorem dX9_add_30 : decode cX9_add 30 = .ok (.lload_n 3, 1) := by decide +kernel
theorem dX9_add_31 : decode cX9_add 31 = .ok (.invokevirtual 165, 3) := by decide +kernel
theorem dX9_add_34 : decode cX9_add 34 = .ok (.aload_n 0, 1) := by decide +kernel
theorem dX9_add_35 : decode cX9_add 35 = .ok (.getfield 120, 3) := by decide +kernel
theorem dX9_add_38 : decode cX9_add 38 = .ok (.ireturn, 1) := by decide +kernel
set_option maxRecDepth 20000 in
theorem ggX9_cap_X9_refused : GoodIn wsX9_cap wsX9_refused := goodIn_r _ [5, 6, 7, 8, 9, 10, 11, 4, 12, 13, 14, 15, 16, 41, 42, 43, 44, 45, 46, 47, 48, 49, 50, 51, 52, 53, 54, 55, 56, 57, 58, 59, 60, 61, 62, 63, 64, 65, 66, 67, 68, 69, 70, 71] (by decide +kernel) (by decide +kernel)
set_option maxRecDepth 20000 in
theorem gX9_cap_X9_refused : GoodIn wsX9_cap (wsV RX9 157 RX9 yX9_refused wsX9_refused) := goodIn_app (goodIn_of _ (by decide +kernel)) ggX9_cap_X9_refused
set_option maxRecDepth 20000 in
theorem ggX9_cap_X9_writes : GoodIn wsX9_cap wsX9_writes := goodIn_r _ [20, 21, 8, 22, 23, 24, 41, 42, 43, 44, 45, 46, 47, 48, 49, 50, 51, 52, 53, 54, 55, 56, 57, 58, 59, 60, 61, 62, 63, 64, 65, 66, 67, 68, 69, 70, 71] (by decide +kernel) (by decide +kernel)
set_option maxRecDepth 20000 in
theorem gX9_cap_X9_writes : GoodIn wsX9_cap (wsV RX9 165 RX9 yX9_writes wsX9_writes) := goodIn_app (goodIn_of _ (by decide +kernel)) ggX9_cap_X9_writes
set_option maxRecDepth 20000 in
theorem ggX9_cap_X9_does : GoodIn wsX9_cap wsX9_does := goodIn_r _ [28, 29, 30, 31, 32, 33, 4, 34, 35, 36, 37, 38, 39, 40, 41, 42, 43, 44, 45, 46, 47, 48, 49, 50, 51, 52, 53, 54, 55, 56, 57, 58, 59, 60, 61, 62, 63, 64, 65, 66, 67, 68, 69, 70, 71] (by decide +kernel) (by decide +kernel)
set_option maxRecDepth 20000 in
theorem gX9_cap_X9_does : GoodIn wsX9_cap (wsV RX9 161 RX9 yX9_does wsX9_does) := goodIn_app (goodIn_of _ (by decide +kernel)) ggX9_cap_X9_does
theorem dX9_cap_0 : decode cX9_cap 0 = .ok (.aload_n 0, 1) := by decide +kernel
theorem dX9_cap_1 : decode cX9_cap 1 = .ok (.iload_n 1, 1) := by decide +kernel
theorem dX9_cap_2 : decode cX9_cap 2 = .ok (.iload_n 2, 1) := by decide +kernel
theorem dX9_cap_3 : decode cX9_cap 3 = .ok (.lload_n 3, 1) := by decide +kernel
theorem dX9_cap_4 : decode cX9_cap 4 = .ok (.invokevirtual 157, 3) := by decide +kernel
theorem dX9_cap_7 : decode cX9_cap 7 = .ok (.istore 5, 2) := by decide +kernel
theorem dX9_cap_9 : decode cX9_cap 9 = .ok (.iload 5, 2) := by decide +kernel
theorem dX9_cap_11 : decode cX9_cap 11 = .ok (.ifCond .eq 6, 3) := by decide +kernel
theorem dX9_cap_14 : decode cX9_cap 14 = .ok (.iload 5, 2) := by decide +kernel
theorem dX9_cap_16 : decode cX9_cap 16 = .ok (.ireturn, 1) := by decide +kernel
theorem dX9_cap_17 : decode cX9_cap 17 = .ok (.aload_n 0, 1) := by decide +kernel
theorem dX9_cap_18 : decode cX9_cap 18 = .ok (.iconst 1, 1) := by decide +kernel
theorem dX9_cap_19 : decode cX9_cap 19 = .ok (.iload_n 1, 1) := by decide +kernel
theorem dX9_cap_20 : decode cX9_cap 20 = .ok (.iload_n 2, 1) := by decide +kernel
theorem dX9_cap_21 : decode cX9_cap 21 = .ok (.lload_n 3, 1) := by decide +kernel
theorem dX9_cap_22 : decode cX9_cap 22 = .ok (.invokevirtual 165, 3) := by decide +kernel
theorem dX9_cap_25 : decode cX9_cap 25 = .ok (.aload_n 0, 1) := by decide +kernel
theorem dX9_cap_26 : decode cX9_cap 26 = .ok (.iconst 1, 1) := by decide +kernel
theorem dX9_cap_27 : decode cX9_cap 27 = .ok (.iload_n 1, 1) := by decide +kernel
theorem dX9_cap_28 : decode cX9_cap 28 = .ok (.iload_n 2, 1) := by decide +kernel
theorem dX9_cap_29 : decode cX9_cap 29 = .ok (.lload_n 3, 1) := by decide +kernel
theorem dX9_cap_30 : decode cX9_cap 30 = .ok (.invokevirtual 161, 3) := by decide +kernel
theorem dX9_cap_33 : decode cX9_cap 33 = .ok (.ireturn, 1) := by decide +kernel
set_option maxRecDepth 20000 in
theorem ggX9_floor_X9_refused : GoodIn wsX9_floor wsX9_refused := goodIn_r _ [5, 6, 7, 8, 9, 10, 11, 4, 12, 13, 14, 15, 16, 41, 42, 43, 44, 45, 46, 47, 48, 49, 50, 51, 52, 53, 54, 55, 56, 57, 58, 59, 60, 61, 62, 63, 64, 65, 66, 67, 68, 69, 70, 71] (by decide +kernel) (by decide +kernel)
set_option maxRecDepth 20000 in
theorem gX9_floor_X9_refused : GoodIn wsX9_floor (wsV RX9 157 RX9 yX9_refused wsX9_refused) := goodIn_app (goodIn_of _ (by decide +kernel)) ggX9_floor_X9_refused
set_option maxRecDepth 20000 in
theorem ggX9_floor_X9_writes : GoodIn wsX9_floor wsX9_writes := goodIn_r _ [20, 21, 8, 22, 23, 24, 41, 42, 43, 44, 45, 46, 47, 48, 49, 50, 51, 52, 53, 54, 55, 56, 57, 58, 59, 60, 61, 62, 63, 64, 65, 66, 67, 68, 69, 70, 71] (by decide +kernel) (by decide +kernel)
set_option maxRecDepth 20000 in
theorem gX9_floor_X9_writes : GoodIn wsX9_floor (wsV RX9 165 RX9 yX9_writes wsX9_writes) := goodIn_app (goodIn_of _ (by decide +kernel)) ggX9_floor_X9_writes
set_option maxRecDepth 20000 in
theorem ggX9_floor_X9_does : GoodIn wsX9_floor wsX9_does := goodIn_r _ [28, 29, 30, 31, 32, 33, 4, 34, 35, 36, 37, 38, 39, 40, 41, 42, 43, 44, 45, 46, 47, 48, 49, 50, 51, 52, 53, 54, 55, 56, 57, 58, 59, 60, 61, 62, 63, 64, 65, 66, 67, 68, 69, 70, 71] (by decide +kernel) (by decide +kernel)
set_option maxRecDepth 20000 in
theorem gX9_floor_X9_does : GoodIn wsX9_floor (wsV RX9 161 RX9 yX9_does wsX9_does) := goodIn_app (goodIn_of _ (by decide +kernel)) ggX9_floor_X9_does
theorem dX9_floor_0 : decode cX9_floor 0 = .ok (.aload_n 0, 1) := by decide +kernel
theorem dX9_floor_1 : decode cX9_floor 1 = .ok (.iload_n 1, 1) := by decide +kernel
theorem dX9_floor_2 : decode cX9_floor 2 = .ok (.iload_n 2, 1) := by decide +kernel
theorem dX9_floor_3 : decode cX9_floor 3 = .ok (.lload_n 3, 1) := by decide +kernel
theorem dX9_floor_4 : decode cX9_floor 4 = .ok (.invokevirtual 157, 3) := by decide +kernel
theorem dX9_floor_7 : decode cX9_floor 7 = .ok (.istore 5, 2) := by decide +kernel
theorem dX9_floor_9 : decode cX9_floor 9 = .ok (.iload 5, 2) := by decide +kernel
theorem dX9_floor_11 : decode cX9_floor 11 = .ok (.ifCond .eq 6, 3) := by decide +kernel
theorem dX9_floor_14 : decode cX9_floor 14 = .ok (.iload 5, 2) := by decide +kernel
theorem dX9_floor_16 : decode cX9_floor 16 = .ok (.ireturn, 1) := by decide +kernel
theorem dX9_floor_17 : decode cX9_floor 17 = .ok (.aload_n 0, 1) := by decide +kernel
theorem dX9_floor_18 : decode cX9_floor 18 = .ok (.iconst 2, 1) := by decide +kernel
theorem dX9_floor_19 : decode cX9_floor 19 = .ok (.iload_n 1, 1) := by decide +kernel
theorem dX9_floor_20 : decode cX9_floor 20 = .ok (.iload_n 2, 1) := by decide +kernel
theorem dX9_floor_21 : decode cX9_floor 21 = .ok (.lload_n 3, 1) := by decide +kernel
theorem dX9_floor_22 : decode cX9_floor 22 = .ok (.invokevirtual 165, 3) := by decide +kernel
theorem dX9_floor_25 : decode cX9_floor 25 = .ok (.aload_n 0, 1) := by decide +kernel
theorem dX9_floor_26 : decode cX9_floor 26 = .ok (.iconst 2, 1) := by decide +kernel
theorem dX9_floor_27 : decode cX9_floor 27 = .ok (.iload_n 1, 1) := by decide +kernel
theorem dX9_floor_28 : decode cX9_floor 28 = .ok (.iload_n 2, 1) := by decide +kernel
theorem dX9_floor_29 : decode cX9_floor 29 = .ok (.lload_n 3, 1) := by decide +kernel
theorem dX9_floor_30 : decode cX9_floor 30 = .ok (.invokevirtual 161, 3) := by decide +kernel
theorem dX9_floor_33 : decode cX9_floor 33 = .ok (.ireturn, 1) := by decide +kernel
set_option maxRecDepth 20000 in
theorem ggX9_help_X9_isHelper : GoodIn wsX9_help wsX9_isHelper := goodIn_r _ [6, 7, 40, 41, 42, 43, 44, 45, 46, 47, 48, 49, 50, 51, 52, 53, 54, 55, 56, 57, 58, 59, 60, 61, 62, 63, 64, 65, 66, 67, 68, 69, 70] (by decide +kernel) (by decide +kernel)
set_option maxRecDepth 20000 in
theorem gX9_help_X9_isHelper : GoodIn wsX9_help (wsV RX9 133 RX9 yX9_isHelper wsX9_isHelper) := goodIn_app (goodIn_of _ (by decide +kernel)) ggX9_help_X9_isHelper
set_option maxRecDepth 20000 in
theorem ggX9_help_X9_isCell : GoodIn wsX9_help wsX9_isCell := goodIn_r _ [11, 12, 40, 41, 42, 43, 44, 45, 46, 47, 48, 49, 50, 51, 52, 53, 54, 55, 56, 57, 58, 59, 60, 61, 62, 63, 64, 65, 66, 67, 68, 69, 70] (by decide +kernel) (by decide +kernel)
set_option maxRecDepth 20000 in
theorem gX9_help_X9_isCell : GoodIn wsX9_help (wsV RX9 142 RX9 yX9_isCell wsX9_isCell) := goodIn_app (goodIn_of _ (by decide +kernel)) ggX9_help_X9_isCell
set_option maxRecDepth 20000 in
theorem ggX9_help_X9_within : GoodIn wsX9_help wsX9_within := goodIn_r _ [15] (by decide +kernel) (by decide +kernel)
set_option maxRecDepth 20000 in
theorem gX9_help_X9_within : GoodIn wsX9_help (va_wsS RX9 77 yX9_within wsX9_within) := goodIn_app (goodIn_of _ (by decide +kernel)) ggX9_help_X9_within
set_option maxRecDepth 20000 in
theorem ggX9_help_X9_does : GoodIn wsX9_help wsX9_does := goodIn_r _ [19, 20, 21, 22, 23, 24, 5, 25, 26, 27, 28, 29, 30, 31, 40, 41, 42, 43, 44, 45, 46, 47, 48, 49, 50, 51, 52, 53, 54, 55, 56, 57, 58, 59, 60, 61, 62, 63, 64, 65, 66, 67, 68, 69, 70] (by decide +kernel) (by decide +kernel)
set_option maxRecDepth 20000 in
theorem gX9_help_X9_does : GoodIn wsX9_help (wsV RX9 161 RX9 yX9_does wsX9_does) := goodIn_app (goodIn_of _ (by decide +kernel)) ggX9_help_X9_does
set_option maxRecDepth 20000 in
theorem ggX9_help_X9_writes : GoodIn wsX9_help wsX9_writes := goodIn_r _ [35, 36, 1, 37, 38, 39, 40, 41, 42, 43, 44, 45, 46, 47, 48, 49, 50, 51, 52, 53, 54, 55, 56, 57, 58, 59, 60, 61, 62, 63, 64, 65, 66, 67, 68, 69, 70] (by decide +kernel) (by decide +kernel)
set_option maxRecDepth 20000 in
theorem gX9_help_X9_writes : GoodIn wsX9_help (wsV RX9 165 RX9 yX9_writes wsX9_writes) := goodIn_app (goodIn_of _ (by decide +kernel)) ggX9_help_X9_writes
set_option maxRecDepth 20000 in
theorem ggX9_help_X9_strengthOf : GoodIn wsX9_help wsX9_strengthOf := goodIn_r _ [25, 26, 27, 40, 41, 42, 43, 44, 45, 46, 47, 48, 49, 50, 51, 52, 53, 54, 55, 56, 57, 58, 59, 60, 61, 62, 63, 64, 65, 66, 67, 68, 69, 70] (by decide +kernel) (by decide +kernel)
set_option maxRecDepth 20000 in
theorem gX9_help_X9_strengthOf : GoodIn wsX9_help (wsV RX9 136 RX9 yX9_strengthOf wsX9_strengthOf) := goodIn_app (goodIn_of _ (by decide +kernel)) ggX9_help_X9_strengthOf
theorem dX9_help_0 : decode cX9_help 0 = .ok (.aload_n 0, 1) := by decide +kernel
theorem dX9_help_1 : decode cX9_help 1 = .ok (.iload_n 1, 1) := by decide +kernel
theorem dX9_help_2 : decode cX9_help 2 = .ok (.invokevirtual 133, 3) := by decide +kernel
theorem dX9_help_5 : decode cX9_help 5 = .ok (.ifCond .eq 19, 3) := by decide +kernel
theorem dX9_help_8 : decode cX9_help 8 = .ok (.aload_n 0, 1) := by decide +kernel
theorem dX9_help_9 : decode cX9_help 9 = .ok (.iload_n 2, 1) := by decide +kernel
theorem dX9_help_10 : decode cX9_help 10 = .ok (.invokevirtual 142, 3) := by decide +kernel
theorem dX9_help_13 : decode cX9_help 13 = .ok (.ifCond .eq 11, 3) := by decide +kernel
theorem dX9_help_16 : decode cX9_help 16 = .ok (.aload_n 0, 1) := by decide +kernel
theorem dX9_help_17 : decode cX9_help 17 = .ok (.iload_n 3, 1) := by decide +kernel
theorem dX9_help_18 : decode cX9_help 18 = .ok (.invokevirtual 142, 3) := by decide +kernel
theorem dX9_help_21 : decode cX9_help 21 = .ok (.ifCond .ne 5, 3) := by decide +kernel
theorem dX9_help_24 : decode cX9_help 24 = .ok (.iconst (-1), 1) := by decide +kernel
theorem dX9_help_25 : decode cX9_help 25 = .ok (.ireturn, 1) := by decide +kernel
theorem dX9_help_26 : decode cX9_help 26 = .ok (.iload_n 2, 1) := by decide +kernel
theorem dX9_help_27 : decode cX9_help 27 = .ok (.iload_n 3, 1) := by decide +kernel
theorem dX9_help_28 : decode cX9_help 28 = .ok (.if_icmp .gt 13, 3) := by decide +kernel
theorem dX9_help_31 : decode cX9_help 31 = .ok (.iload 4, 2) := by decide +kernel
theorem dX9_help_33 : decode cX9_help 33 = .ok (.iconst 0, 1) := by decide +kernel
theorem dX9_help_34 : decode cX9_help 34 = .ok (.iconst 1, 1) := by decide +kernel
theorem dX9_help_35 : decode cX9_help 35 = .ok (.invokestatic 77, 3) := by decide +kernel
theorem dX9_help_38 : decode cX9_help 38 = .ok (.ifCond .ne 6, 3) := by decide +kernel
theorem dX9_help_41 : decode cX9_help 41 = .ok (.bipush (-2), 2) := by decide +kernel
theorem dX9_help_43 : decode cX9_help 43 = .ok (.ireturn, 1) := by decide +kernel
theorem dX9_help_44 : decode cX9_help 44 = .ok (.aload_n 0, 1) := by decide +kernel
theorem dX9_help_45 : decode cX9_help 45 = .ok (.getfield 120, 3) := by decide +kernel
theorem dX9_help_48 : decode cX9_help 48 = .ok (.bipush 24, 2) := by decide +kernel
theorem dX9_help_50 : decode cX9_help 50 = .ok (.if_icmp .ne 6, 3) := by decide +kernel
theorem dX9_help_53 : decode cX9_help 53 = .ok (.bipush (-4), 2) := by decide +kernel
theorem dX9_help_55 : decode cX9_help 55 = .ok (.ireturn, 1) := by decide +kernel
theorem dX9_help_56 : decode cX9_help 56 = .ok (.iload 4, 2) := by decide +kernel
theorem dX9_help_58 : decode cX9_help 58 = .ok (.iconst 1, 1) := by decide +kernel
theorem dX9_help_59 : decode cX9_help 59 = .ok (.if_icmp .ne 7, 3) := by decide +kernel
theorem dX9_help_62 : decode cX9_help 62 = .ok (.iconst 3, 1) := by decide +kernel
theorem dX9_help_63 : decode cX9_help 63 = .ok (.goto 4, 3) := by decide +kernel
theorem dX9_help_66 : decode cX9_help 66 = .ok (.iconst 4, 1) := by decide +kernel
theorem dX9_help_67 : decode cX9_help 67 = .ok (.istore 5, 2) := by decide +kernel
theorem dX9_help_69 : decode cX9_help 69 = .ok (.aload_n 0, 1) := by decide +kernel
theorem dX9_help_70 : decode cX9_help 70 = .ok (.iload 5, 2) := by decide +kernel
theorem dX9_help_72 : decode cX9_help 72 = .ok (.iload_n 2, 1) := by decide +kernel
theorem dX9_help_73 : decode cX9_help 73 = .ok (.iload_n 3, 1) := by decide +kernel
theorem dX9_help_74 : decode cX9_help 74 = .ok (.iload_n 1, 1) := by decide +kernel
theorem dX9_help_75 : decode cX9_help 75 = .ok (.i2l, 1) := by decide +kernel
theorem dX9_help_76 : decode cX9_help 76 = .ok (.invokevirtual 161, 3) := by decide +kernel
theorem dX9_help_79 : decode cX9_help 79 = .ok (.pop, 1) := by decide +kernel
theorem dX9_help_80 : decode cX9_help 80 = .ok (.aload_n 0, 1) := by decide +kernel
theorem dX9_help_81 : decode cX9_help 81 = .ok (.iload 5, 2) := by decide +kernel
theorem dX9_help_83 : decode cX9_help 83 = .ok (.iload_n 2, 1) := by decide +kernel
theorem dX9_help_84 : decode cX9_help 84 = .ok (.iload_n 3, 1) := by decide +kernel
theorem dX9_help_85 : decode cX9_help 85 = .ok (.iload_n 1, 1) := by decide +kernel
theorem dX9_help_86 : decode cX9_help 86 = .ok (.i2l, 1) := by decide +kernel
theorem dX9_help_87 : decode cX9_help 87 = .ok (.invokevirtual 165, 3) := by decide +kernel
theorem dX9_help_90 : decode cX9_help 90 = .ok (.aload_n 0, 1) := by decide +kernel
theorem dX9_help_91 : decode cX9_help 91 = .ok (.iload_n 1, 1) := by decide +kernel
theorem dX9_help_92 : decode cX9_help 92 = .ok (.invokevirtual 136, 3) := by decide +kernel
theorem dX9_help_95 : decode cX9_help 95 = .ok (.ireturn, 1) := by decide +kernel
set_option maxRecDepth 20000 in
theorem ggX9_fresh_X9_begins : GoodIn wsX9_fresh wsX9_begins := goodIn_r _ [7, 2, 1, 8, 9, 10, 11, 12, 13, 14, 15, 16, 17, 18, 19, 20, 21, 22, 23, 24, 25, 26, 27, 28, 29, 30, 31, 32, 33, 34, 35, 36, 37, 38, 39, 40, 41] (by decide +kernel) (by decide +kernel)
set_option maxRecDepth 20000 in
theorem gX9_fresh_X9_begins : GoodIn wsX9_fresh (wsV RX9 114 RX9 yX9_begins wsX9_begins) := goodIn_app (goodIn_of _ (by decide +kernel)) ggX9_fresh_X9_begins
theorem dX9_fresh_0 : decode cX9_fresh 0 = .ok (.aload_n 0, 1) := by decide +kernel
theorem dX9_fresh_1 : decode cX9_fresh 1 = .ok (.getfield 81, 3) := by decide +kernel
theorem dX9_fresh_4 : decode cX9_fresh 4 = .ok (.ifCond .ne 6, 3) := by decide +kernel
theorem dX9_fresh_7 : decode cX9_fresh 7 = .ok (.bipush (-3), 2) := by decide +kernel
theorem dX9_fresh_9 : decode cX9_fresh 9 = .ok (.ireturn, 1) := by decide +kernel
theorem dX9_fresh_10 : decode cX9_fresh 10 = .ok (.aload_n 0, 1) := by decide +kernel
theorem dX9_fresh_11 : decode cX9_fresh 11 = .ok (.getfield 120, 3) := by decide +kernel
theorem dX9_fresh_14 : decode cX9_fresh 14 = .ok (.istore_n 1, 1) := by decide +kernel
theorem dX9_fresh_15 : decode cX9_fresh 15 = .ok (.aload_n 0, 1) := by decide +kernel
theorem dX9_fresh_16 : decode cX9_fresh 16 = .ok (.invokevirtual 114, 3) := by decide +kernel
theorem dX9_fresh_19 : decode cX9_fresh 19 = .ok (.iload_n 1, 1) := by decide +kernel
theorem dX9_fresh_20 : decode cX9_fresh 20 = .ok (.ireturn, 1) := by decide +kernel
theorem dX9_keep_0 : decode cX9_keep 0 = .ok (.iconst 0, 1) := by decide +kernel
theorem dX9_keep_1 : decode cX9_keep 1 = .ok (.istore_n 1, 1) := by decide +kernel
theorem dX9_keep_2 : decode cX9_keep 2 = .ok (.iload_n 1, 1) := by decide +kernel
theorem dX9_keep_3 : decode cX9_keep 3 = .ok (.aload_n 0, 1) := by decide +kernel
theorem dX9_keep_4 : decode cX9_keep 4 = .ok (.getfield 81, 3) := by decide +kernel
theorem dX9_keep_7 : decode cX9_keep 7 = .ok (.if_icmp .ge 33, 3) := by decide +kernel
theorem dX9_keep_10 : decode cX9_keep 10 = .ok (.aload_n 0, 1) := by decide +kernel
theorem dX9_keep_11 : decode cX9_keep 11 = .ok (.getfield 56, 3) := by decide +kernel
theorem dX9_keep_14 : decode cX9_keep 14 = .ok (.iload_n 1, 1) := by decide +kernel
theorem dX9_keep_15 : decode cX9_keep 15 = .ok (.aload_n 0, 1) := by decide +kernel
theorem dX9_keep_16 : decode cX9_keep 16 = .ok (.getfield 19, 3) := by decide +kernel
theorem dX9_keep_19 : decode cX9_keep 19 = .ok (.iload_n 1, 1) := by decide +kernel
theorem dX9_keep_20 : decode cX9_keep 20 = .ok (.laload, 1) := by decide +kernel
theorem dX9_keep_21 : decode cX9_keep 21 = .ok (.lastore, 1) := by decide +kernel
theorem dX9_keep_22 : decode cX9_keep 22 = .ok (.aload_n 0, 1) := by decide +kernel
theorem dX9_keep_23 : decode cX9_keep 23 = .ok (.getfield 59, 3) := by decide +kernel
theorem dX9_keep_26 : decode cX9_keep 26 = .ok (.iload_n 1, 1) := by decide +kernel
theorem dX9_keep_27 : decode cX9_keep 27 = .ok (.aload_n 0, 1) := by decide +kernel
theorem dX9_keep_28 : decode cX9_keep 28 = .ok (.getfield 23, 3) := by decide +kernel
theorem dX9_keep_31 : decode cX9_keep 31 = .ok (.iload_n 1, 1) := by decide +kernel
theorem dX9_keep_32 : decode cX9_keep 32 = .ok (.laload, 1) := by decide +kernel
theorem dX9_keep_33 : decode cX9_keep 33 = .ok (.lastore, 1) := by decide +kernel
theorem dX9_keep_34 : decode cX9_keep 34 = .ok (.iinc 1 1, 3) := by decide +kernel
theorem dX9_keep_37 : decode cX9_keep 37 = .ok (.goto (-35), 3) := by decide +kernel
theorem dX9_keep_40 : decode cX9_keep 40 = .ok (.return_, 1) := by decide +kernel
theorem dX9_putBack_0 : decode cX9_putBack 0 = .ok (.iconst 0, 1) := by decide +kernel
theorem dX9_putBack_1 : decode cX9_putBack 1 = .ok (.istore_n 1, 1) := by decide +kernel
theorem dX9_putBack_2 : decode cX9_putBack 2 = .ok (.iload_n 1, 1) := by decide +kernel
theorem dX9_putBack_3 : decode cX9_putBack 3 = .ok (.aload_n 0, 1) := by decide +kernel
theorem dX9_putBack_4 : decode cX9_putBack 4 = .ok (.getfield 81, 3) := by decide +kernel
theorem dX9_putBack_7 : decode cX9_putBack 7 = .ok (.if_icmp .ge 33, 3) := by decide +kernel
theorem dX9_putBack_10 : decode cX9_putBack 10 = .ok (.aload_n 0, 1) := by decide +kernel
theorem dX9_putBack_11 : decode cX9_putBack 11 = .ok (.getfield 19, 3) := by decide +kernel
theorem dX9_putBack_14 : decode cX9_putBack 14 = .ok (.iload_n 1, 1) := by decide +kernel
theorem dX9_putBack_15 : decode cX9_putBack 15 = .ok (.aload_n 0, 1) := by decide +kernel
theorem dX9_putBack_16 : decode cX9_putBack 16 = .ok (.getfield 56, 3) := by decide +kernel
theorem dX9_putBack_19 : decode cX9_putBack 19 = .ok (.iload_n 1, 1) := by decide +kernel
theorem dX9_putBack_20 : decode cX9_putBack 20 = .ok (.laload, 1) := by decide +kernel
theorem dX9_putBack_21 : decode cX9_putBack 21 = .ok (.lastore, 1) := by decide +kernel
theorem dX9_putBack_22 : decode cX9_putBack 22 = .ok (.aload_n 0, 1) := by decide +kernel
theorem dX9_putBack_23 : decode cX9_putBack 23 = .ok (.getfield 23, 3) := by decide +kernel
theorem dX9_putBack_26 : decode cX9_putBack 26 = .ok (.iload_n 1, 1) := by decide +kernel
theorem dX9_putBack_27 : decode cX9_putBack 27 = .ok (.aload_n 0, 1) := by decide +kernel
theorem dX9_putBack_28 : decode cX9_putBack 28 = .ok (.getfield 59, 3) := by decide +kernel
theorem dX9_putBack_31 : decode cX9_putBack 31 = .ok (.iload_n 1, 1) := by decide +kernel
theorem dX9_putBack_32 : decode cX9_putBack 32 = .ok (.laload, 1) := by decide +kernel
theorem dX9_putBack_33 : decode cX9_putBack 33 = .ok (.lastore, 1) := by decide +kernel
theorem dX9_putBack_34 : decode cX9_putBack 34 = .ok (.iinc 1 1, 3) := by decide +kernel
theorem dX9_putBack_37 : decode cX9_putBack 37 = .ok (.goto (-35), 3) := by decide +kernel
theorem dX9_putBack_40 : decode cX9_putBack 40 = .ok (.return_, 1) := by decide +kernel
set_option maxRecDepth 20000 in
theorem ggX9_goesFour_X9_isCell : GoodIn wsX9_goesFour wsX9_isCell := goodIn_r _ [6, 7, 29, 30, 31, 32, 33, 34, 35, 36, 37, 38, 39, 40, 41, 42, 43, 44, 45, 46, 47, 48, 49, 50, 51, 52, 53, 54, 55, 56, 57, 58, 59] (by decide +kernel) (by decide +kernel)
set_option maxRecDepth 20000 in
theorem gX9_goesFour_X9_isCell : GoodIn wsX9_goesFour (wsV RX9 142 RX9 yX9_isCell wsX9_isCell) := goodIn_app (goodIn_of _ (by decide +kernel)) ggX9_goesFour_X9_isCell
set_option maxRecDepth 20000 in
theorem ggX9_goesFour_X9_isHelper : GoodIn wsX9_goesFour wsX9_isHelper := goodIn_r _ [11, 12, 29, 30, 31, 32, 33, 34, 35, 36, 37, 38, 39, 40, 41, 42, 43, 44, 45, 46, 47, 48, 49, 50, 51, 52, 53, 54, 55, 56, 57, 58, 59] (by decide +kernel) (by decide +kernel)
set_option maxRecDepth 20000 in
theorem gX9_goesFour_X9_isHelper : GoodIn wsX9_goesFour (wsV RX9 133 RX9 yX9_isHelper wsX9_isHelper) := goodIn_app (goodIn_of _ (by decide +kernel)) ggX9_goesFour_X9_isHelper
set_option maxRecDepth 20000 in
theorem ggX9_goesFour_X9_does : GoodIn wsX9_goesFour wsX9_does := goodIn_r _ [16, 17, 18, 19, 20, 21, 5, 22, 23, 24, 25, 26, 27, 28, 29, 30, 31, 32, 33, 34, 35, 36, 37, 38, 39, 40, 41, 42, 43, 44, 45, 46, 47, 48, 49, 50, 51, 52, 53, 54, 55, 56, 57, 58, 59] (by decide +kernel) (by decide +kernel)
set_option maxRecDepth 20000 in
theorem gX9_goesFour_X9_does : GoodIn wsX9_goesFour (wsV RX9 161 RX9 yX9_does wsX9_does) := goodIn_app (goodIn_of _ (by decide +kernel)) ggX9_goesFour_X9_does
theorem dX9_goesFour_0 : decode cX9_goesFour 0 = .ok (.aload_n 0, 1) := by decide +kernel
theorem dX9_goesFour_1 : decode cX9_goesFour 1 = .ok (.getfield 16, 3) := by decide +kernel
theorem dX9_goesFour_4 : decode cX9_goesFour 4 = .ok (.iload_n 1, 1) := by decide +kernel
theorem dX9_goesFour_5 : decode cX9_goesFour 5 = .ok (.iaload, 1) := by decide +kernel
theorem dX9_goesFour_6 : decode cX9_goesFour 6 = .ok (.istore_n 2, 1) := by decide +kernel
theorem dX9_goesFour_7 : decode cX9_goesFour 7 = .ok (.aload_n 0, 1) := by decide +kernel
theorem dX9_goesFour_8 : decode cX9_goesFour 8 = .ok (.getfield 16, 3) := by decide +kernel
theorem dX9_goesFour_11 : decode cX9_goesFour 11 = .ok (.iload_n 1, 1) := by decide +kernel
theorem dX9_goesFour_12 : decode cX9_goesFour 12 = .ok (.iconst 1, 1) := by decide +kernel
theorem dX9_goesFour_13 : decode cX9_goesFour 13 = .ok (.iadd, 1) := by decide +kernel
theorem dX9_goesFour_14 : decode cX9_goesFour 14 = .ok (.iaload, 1) := by decide +kernel
theorem dX9_goesFour_15 : decode cX9_goesFour 15 = .ok (.istore_n 3, 1) := by decide +kernel
theorem dX9_goesFour_16 : decode cX9_goesFour 16 = .ok (.aload_n 0, 1) := by decide +kernel
theorem dX9_goesFour_17 : decode cX9_goesFour 17 = .ok (.getfield 16, 3) := by decide +kernel
theorem dX9_goesFour_20 : decode cX9_goesFour 20 = .ok (.iload_n 1, 1) := by decide +kernel
theorem dX9_goesFour_21 : decode cX9_goesFour 21 = .ok (.iconst 2, 1) := by decide +kernel
theorem dX9_goesFour_22 : decode cX9_goesFour 22 = .ok (.iadd, 1) := by decide +kernel
theorem dX9_goesFour_23 : decode cX9_goesFour 23 = .ok (.iaload, 1) := by decide +kernel
theorem dX9_goesFour_24 : decode cX9_goesFour 24 = .ok (.istore 4, 2) := by decide +kernel
theorem dX9_goesFour_26 : decode cX9_goesFour 26 = .ok (.aload_n 0, 1) := by decide +kernel
theorem dX9_goesFour_27 : decode cX9_goesFour 27 = .ok (.getfield 16, 3) := by decide +kernel
theorem dX9_goesFour_30 : decode cX9_goesFour 30 = .ok (.iload_n 1, 1) := by decide +kernel
theorem dX9_goesFour_31 : decode cX9_goesFour 31 = .ok (.iconst 3, 1) := by decide +kernel
theorem dX9_goesFour_32 : decode cX9_goesFour 32 = .ok (.iadd, 1) := by decide +kernel
theorem dX9_goesFour_33 : decode cX9_goesFour 33 = .ok (.iaload, 1) := by decide +kernel
theorem dX9_goesFour_34 : decode cX9_goesFour 34 = .ok (.istore 5, 2) := by decide +kernel
theorem dX9_goesFour_36 : decode cX9_goesFour 36 = .ok (.aload_n 0, 1) := by decide +kernel
theorem dX9_goesFour_37 : decode cX9_goesFour 37 = .ok (.iload_n 3, 1) := by decide +kernel
theorem dX9_goesFour_38 : decode cX9_goesFour 38 = .ok (.invokevirtual 142, 3) := by decide +kernel
theorem dX9_goesFour_41 : decode cX9_goesFour 41 = .ok (.ifCond .eq 32, 3) := by decide +kernel
theorem dX9_goesFour_44 : decode cX9_goesFour 44 = .ok (.aload_n 0, 1) := by decide +kernel
theorem dX9_goesFour_45 : decode cX9_goesFour 45 = .ok (.iload 4, 2) := by decide +kernel
theorem dX9_goesFour_47 : decode cX9_goesFour 47 = .ok (.invokevirtual 142, 3) := by decide +kernel
theorem dX9_goesFour_50 : decode cX9_goesFour 50 = .ok (.ifCond .eq 23, 3) := by decide +kernel
theorem dX9_goesFour_53 : decode cX9_goesFour 53 = .ok (.iload_n 3, 1) := by decide +kernel
theorem dX9_goesFour_54 : decode cX9_goesFour 54 = .ok (.iload 4, 2) := by decide +kernel
theorem dX9_goesFour_56 : decode cX9_goesFour 56 = .ok (.if_icmp .gt 17, 3) := by decide +kernel
theorem dX9_goesFour_59 : decode cX9_goesFour 59 = .ok (.iload_n 2, 1) := by decide +kernel
theorem dX9_goesFour_60 : decode cX9_goesFour 60 = .ok (.iconst 3, 1) := by decide +kernel
theorem dX9_goesFour_61 : decode cX9_goesFour 61 = .ok (.if_icmp .lt 14, 3) := by decide +kernel
theorem dX9_goesFour_64 : decode cX9_goesFour 64 = .ok (.aload_n 0, 1) := by decide +kernel
theorem dX9_goesFour_65 : decode cX9_goesFour 65 = .ok (.iload 5, 2) := by decide +kernel
theorem dX9_goesFour_67 : decode cX9_goesFour 67 = .ok (.invokevirtual 133, 3) := by decide +kernel
theorem dX9_goesFour_70 : decode cX9_goesFour 70 = .ok (.ifCond .ne 5, 3) := by decide +kernel
theorem dX9_goesFour_73 : decode cX9_goesFour 73 = .ok (.iconst 0, 1) := by decide +kernel
theorem dX9_goesFour_74 : decode cX9_goesFour 74 = .ok (.ireturn, 1) := by decide +kernel
theorem dX9_goesFour_75 : decode cX9_goesFour 75 = .ok (.aload_n 0, 1) := by decide +kernel
theorem dX9_goesFour_76 : decode cX9_goesFour 76 = .ok (.iload_n 2, 1) := by decide +kernel
theorem dX9_goesFour_77 : decode cX9_goesFour 77 = .ok (.iload_n 3, 1) := by decide +kernel
theorem dX9_goesFour_78 : decode cX9_goesFour 78 = .ok (.iload 4, 2) := by decide +kernel
theorem dX9_goesFour_80 : decode cX9_goesFour 80 = .ok (.iload 5, 2) := by decide +kernel
theorem dX9_goesFour_82 : decode cX9_goesFour 82 = .ok (.i2l, 1) := by decide +kernel
theorem dX9_goesFour_83 : decode cX9_goesFour 83 = .ok (.invokevirtual 161, 3) := by decide +kernel
theorem dX9_goesFour_86 : decode cX9_goesFour 86 = .ok (.pop, 1) := by decide +kernel
theorem dX9_goesFour_87 : decode cX9_goesFour 87 = .ok (.iconst 1, 1) := by decide +kernel
theorem dX9_goesFour_88 : decode cX9_goesFour 88 = .ok (.ireturn, 1) := by decide +kernel
set_option maxRecDepth 20000 in
theorem ggX9_goDay_X9_goesFour : GoodIn wsX9_goDay wsX9_goesFour := goodIn_r _ [5, 6, 7, 8, 9, 4, 10, 11, 12, 13, 14, 15, 16, 17, 18, 19, 20, 21, 22, 23, 24, 25, 26, 27, 28, 29, 30, 31, 32, 33, 34, 35, 36, 37, 38, 39, 40, 41, 42, 43, 44, 45, 46, 47, 48, 49, 50, 51, 52, 53, 54, 55, 56, 57, 58, 59, 60, 61, 62, 63] (by decide +kernel) (by decide +kernel)
set_option maxRecDepth 20000 in
theorem gX9_goDay_X9_goesFour : GoodIn wsX9_goDay (wsV RX9 169 RX9 yX9_goesFour wsX9_goesFour) := goodIn_app (goodIn_of _ (by decide +kernel)) ggX9_goDay_X9_goesFour
theorem dX9_goDay_0 : decode cX9_goDay 0 = .ok (.iconst 0, 1) := by decide +kernel
theorem dX9_goDay_1 : decode cX9_goDay 1 = .ok (.istore_n 3, 1) := by decide +kernel
theorem dX9_goDay_2 : decode cX9_goDay 2 = .ok (.iload_n 3, 1) := by decide +kernel
theorem dX9_goDay_3 : decode cX9_goDay 3 = .ok (.iload_n 2, 1) := by decide +kernel
theorem dX9_goDay_4 : decode cX9_goDay 4 = .ok (.if_icmp .ge 23, 3) := by decide +kernel
theorem dX9_goDay_7 : decode cX9_goDay 7 = .ok (.aload_n 0, 1) := by decide +kernel
theorem dX9_goDay_8 : decode cX9_goDay 8 = .ok (.iload_n 1, 1) := by decide +kernel
theorem dX9_goDay_9 : decode cX9_goDay 9 = .ok (.iconst 4, 1) := by decide +kernel
theorem dX9_goDay_10 : decode cX9_goDay 10 = .ok (.iload_n 3, 1) := by decide +kernel
theorem dX9_goDay_11 : decode cX9_goDay 11 = .ok (.imul, 1) := by decide +kernel
theorem dX9_goDay_12 : decode cX9_goDay 12 = .ok (.iadd, 1) := by decide +kernel
theorem dX9_goDay_13 : decode cX9_goDay 13 = .ok (.invokevirtual 169, 3) := by decide +kernel
theorem dX9_goDay_16 : decode cX9_goDay 16 = .ok (.ifCond .ne 5, 3) := by decide +kernel
theorem dX9_goDay_19 : decode cX9_goDay 19 = .ok (.iload_n 3, 1) := by decide +kernel
theorem dX9_goDay_20 : decode cX9_goDay 20 = .ok (.ireturn, 1) := by decide +kernel
theorem dX9_goDay_21 : decode cX9_goDay 21 = .ok (.iinc 3 1, 3) := by decide +kernel
theorem dX9_goDay_24 : decode cX9_goDay 24 = .ok (.goto (-22), 3) := by decide +kernel
theorem dX9_goDay_27 : decode cX9_goDay 27 = .ok (.bipush (-9), 2) := by decide +kernel
theorem dX9_goDay_29 : decode cX9_goDay 29 = .ok (.ireturn, 1) := by decide +kernel
set_option maxRecDepth 20000 in
theorem ggX9_day_X9_isSheet : GoodIn wsX9_day wsX9_isSheet := goodIn_r _ [10, 11, 12, 9, 13] (by decide +kernel) (by decide +kernel)
set_option maxRecDepth 20000 in
theorem gX9_day_X9_isSheet : GoodIn wsX9_day (va_wsS RX9 90 yX9_isSheet wsX9_isSheet) := goodIn_app (goodIn_of _ (by decide +kernel)) ggX9_day_X9_isSheet
set_option maxRecDepth 20000 in
theorem ggX9_day_X9_isSort : GoodIn wsX9_day wsX9_isSort := goodIn_r _ [16, 11, 12, 9, 13] (by decide +kernel) (by decide +kernel)
set_option maxRecDepth 20000 in
theorem gX9_day_X9_isSort : GoodIn wsX9_day (va_wsS RX9 94 yX9_isSort wsX9_isSort) := goodIn_app (goodIn_of _ (by decide +kernel)) ggX9_day_X9_isSort
set_option maxRecDepth 20000 in
theorem ggX9_day_X9_within : GoodIn wsX9_day wsX9_within := goodIn_r _ [13] (by decide +kernel) (by decide +kernel)
set_option maxRecDepth 20000 in
theorem gX9_day_X9_within : GoodIn wsX9_day (va_wsS RX9 77 yX9_within wsX9_within) := goodIn_app (goodIn_of _ (by decide +kernel)) ggX9_day_X9_within
set_option maxRecDepth 20000 in
theorem ggX9_day_X9_against : GoodIn wsX9_day wsX9_against := goodIn_r _ [20, 21, 22, 88, 89, 90, 91, 92, 93, 94, 95, 96, 97, 98, 99, 100, 101, 102, 103, 104, 105, 106, 107, 108, 109, 110, 111, 112, 113, 114, 115, 116, 117, 118] (by decide +kernel) (by decide +kernel)
set_option maxRecDepth 20000 in
theorem gX9_day_X9_against : GoodIn wsX9_day (wsV RX9 97 RX9 yX9_against wsX9_against) := goodIn_app (goodIn_of _ (by decide +kernel)) ggX9_day_X9_against
set_option maxRecDepth 20000 in
theorem ggX9_day_X9_lost : GoodIn wsX9_day wsX9_lost := goodIn_r _ [26, 1, 2, 88, 89, 90, 91, 92, 93, 94, 95, 96, 97, 98, 99, 100, 101, 102, 103, 104, 105, 106, 107, 108, 109, 110, 111, 112, 113, 114, 115, 116, 117, 118] (by decide +kernel) (by decide +kernel)
set_option maxRecDepth 20000 in
theorem gX9_day_X9_lost : GoodIn wsX9_day (wsV RX9 172 RX9 yX9_lost wsX9_lost) := goodIn_app (goodIn_of _ (by decide +kernel)) ggX9_day_X9_lost
set_option maxRecDepth 20000 in
theorem ggX9_day_X9_keep : GoodIn wsX9_day wsX9_keep := goodIn_r _ [30, 3, 31, 6, 32, 5, 88, 89, 90, 91, 92, 93, 94, 95, 96, 97, 98, 99, 100, 101, 102, 103, 104, 105, 106, 107, 108, 109, 110, 111, 112, 113, 114, 115, 116, 117, 118] (by decide +kernel) (by decide +kernel)
set_option maxRecDepth 20000 in
theorem gX9_day_X9_keep : GoodIn wsX9_day (wsV RX9 176 RX9 yX9_keep wsX9_keep) := goodIn_app (goodIn_of _ (by decide +kernel)) ggX9_day_X9_keep
set_option maxRecDepth 20000 in
theorem ggX9_day_X9_goDay : GoodIn wsX9_day wsX9_goDay := goodIn_r _ [36, 37, 38, 39, 9, 40, 4, 41, 42, 43, 44, 3, 45, 46, 47, 48, 49, 50, 51, 52, 53, 6, 5, 54, 55, 56, 57, 58, 59, 60, 61, 62, 63, 88, 89, 90, 91, 92, 93, 94, 95, 96, 97, 98, 99, 100, 101, 102, 103, 104, 105, 106, 107, 108, 109, 110, 111, 112, 113, 114, 115, 116, 117, 118] (by decide +kernel) (by decide +kernel)
set_option maxRecDepth 20000 in
theorem gX9_day_X9_goDay : GoodIn wsX9_day (wsV RX9 179 RX9 yX9_goDay wsX9_goDay) := goodIn_app (goodIn_of _ (by decide +kernel)) ggX9_day_X9_goDay
set_option maxRecDepth 20000 in
theorem ggX9_day_X9_tellDay : GoodIn wsX9_day wsX9_tellDay := goodIn_r _ [67, 6, 2, 3, 41, 42, 43, 9, 44, 68, 69, 70, 71, 72, 73, 74, 75, 76, 77, 78, 79, 80, 81, 82, 83, 5, 88, 89, 90, 91, 92, 93, 94, 95, 96, 97, 98, 99, 100, 101, 102, 103, 104, 105, 106, 107, 108, 109, 110, 111, 112, 113, 114, 115, 116, 117, 118] (by decide +kernel) (by decide +kernel)
set_option maxRecDepth 20000 in
theorem gX9_day_X9_tellDay : GoodIn wsX9_day (wsV RX9 183 RX9 yX9_tellDay wsX9_tellDay) := goodIn_app (goodIn_of _ (by decide +kernel)) ggX9_day_X9_tellDay
set_option maxRecDepth 20000 in
theorem ggX9_day_X9_putBack : GoodIn wsX9_day wsX9_putBack := goodIn_r _ [87, 3, 6, 31, 5, 32, 88, 89, 90, 91, 92, 93, 94, 95, 96, 97, 98, 99, 100, 101, 102, 103, 104, 105, 106, 107, 108, 109, 110, 111, 112, 113, 114, 115, 116, 117, 118] (by decide +kernel) (by decide +kernel)
set_option maxRecDepth 20000 in
theorem gX9_day_X9_putBack : GoodIn wsX9_day (wsV RX9 186 RX9 yX9_putBack wsX9_putBack) := goodIn_app (goodIn_of _ (by decide +kernel)) ggX9_day_X9_putBack
theorem dX9_day_0 : decode cX9_day 0 = .ok (.aload_n 0, 1) := by decide +kernel
theorem dX9_day_1 : decode cX9_day 1 = .ok (.iconst 0, 1) := by decide +kernel
theorem dX9_day_2 : decode cX9_day 2 = .ok (.putfield 71, 3) := by decide +kernel
theorem dX9_day_5 : decode cX9_day 5 = .ok (.iload_n 1, 1) := by decide +kernel
theorem dX9_day_6 : decode cX9_day 6 = .ok (.invokestatic 90, 3) := by decide +kernel
theorem dX9_day_9 : decode cX9_day 9 = .ok (.ifCond .eq 43, 3) := by decide +kernel
theorem dX9_day_12 : decode cX9_day 12 = .ok (.iload_n 2, 1) := by decide +kernel
theorem dX9_day_13 : decode cX9_day 13 = .ok (.invokestatic 94, 3) := by decide +kernel
theorem dX9_day_16 : decode cX9_day 16 = .ok (.ifCond .eq 36, 3) := by decide +kernel
theorem dX9_day_19 : decode cX9_day 19 = .ok (.iload 4, 2) := by decide +kernel
theorem dX9_day_21 : decode cX9_day 21 = .ok (.iconst 0, 1) := by decide +kernel
theorem dX9_day_22 : decode cX9_day 22 = .ok (.bipush 12, 2) := by decide +kernel
theorem dX9_day_24 : decode cX9_day 24 = .ok (.invokestatic 77, 3) := by decide +kernel
theorem dX9_day_27 : decode cX9_day 27 = .ok (.ifCond .eq 25, 3) := by decide +kernel
theorem dX9_day_30 : decode cX9_day 30 = .ok (.iload 5, 2) := by decide +kernel
theorem dX9_day_32 : decode cX9_day 32 = .ok (.iconst 0, 1) := by decide +kernel
theorem dX9_day_33 : decode cX9_day 33 = .ok (.iconst 4, 1) := by decide +kernel
theorem dX9_day_34 : decode cX9_day 34 = .ok (.invokestatic 77, 3) := by decide +kernel
theorem dX9_day_37 : decode cX9_day 37 = .ok (.ifCond .ne 19, 3) := by decide +kernel
theorem dX9_day_40 : decode cX9_day 40 = .ok (.iload 5, 2) := by decide +kernel
theorem dX9_day_42 : decode cX9_day 42 = .ok (.bipush 10, 2) := by decide +kernel
theorem dX9_day_44 : decode cX9_day 44 = .ok (.bipush 25, 2) := by decide +kernel
theorem dX9_day_46 : decode cX9_day 46 = .ok (.invokestatic 77, 3) := by decide +kernel
theorem dX9_day_49 : decode cX9_day 49 = .ok (.ifCond .ne 7, 3) := by decide +kernel
theorem dX9_day_52 : decode cX9_day 52 = .ok (.ldc2_w 75, 3) := by decide +kernel
theorem dX9_day_55 : decode cX9_day 55 = .ok (.lreturn, 1) := by decide +kernel
theorem dX9_day_56 : decode cX9_day 56 = .ok (.aload_n 0, 1) := by decide +kernel
theorem dX9_day_57 : decode cX9_day 57 = .ok (.iload_n 1, 1) := by decide +kernel
theorem dX9_day_58 : decode cX9_day 58 = .ok (.iload_n 2, 1) := by decide +kernel
theorem dX9_day_59 : decode cX9_day 59 = .ok (.iload_n 3, 1) := by decide +kernel
theorem dX9_day_60 : decode cX9_day 60 = .ok (.iconst 4, 1) := by decide +kernel
theorem dX9_day_61 : decode cX9_day 61 = .ok (.iload 4, 2) := by decide +kernel
theorem dX9_day_63 : decode cX9_day 63 = .ok (.imul, 1) := by decide +kernel
theorem dX9_day_64 : decode cX9_day 64 = .ok (.invokevirtual 97, 3) := by decide +kernel
theorem dX9_day_67 : decode cX9_day 67 = .ok (.istore 6, 2) := by decide +kernel
theorem dX9_day_69 : decode cX9_day 69 = .ok (.iload 6, 2) := by decide +kernel
theorem dX9_day_71 : decode cX9_day 71 = .ok (.ifCond .eq 10, 3) := by decide +kernel
theorem dX9_day_74 : decode cX9_day 74 = .ok (.aload_n 0, 1) := by decide +kernel
theorem dX9_day_75 : decode cX9_day 75 = .ok (.iload 6, 2) := by decide +kernel
theorem dX9_day_77 : decode cX9_day 77 = .ok (.invokevirtual 172, 3) := by decide +kernel
theorem dX9_day_80 : decode cX9_day 80 = .ok (.lreturn, 1) := by decide +kernel
theorem dX9_day_81 : decode cX9_day 81 = .ok (.aload_n 0, 1) := by decide +kernel
theorem dX9_day_82 : decode cX9_day 82 = .ok (.getfield 81, 3) := by decide +kernel
theorem dX9_day_85 : decode cX9_day 85 = .ok (.ifCond .ne 7, 3) := by decide +kernel
theorem dX9_day_88 : decode cX9_day 88 = .ok (.ldc2_w 75, 3) := by decide +kernel
theorem dX9_day_91 : decode cX9_day 91 = .ok (.lreturn, 1) := by decide +kernel
theorem dX9_day_92 : decode cX9_day 92 = .ok (.bipush 60, 2) := by decide +kernel
theorem dX9_day_94 : decode cX9_day 94 = .ok (.iload_n 1, 1) := by decide +kernel
theorem dX9_day_95 : decode cX9_day 95 = .ok (.imul, 1) := by decide +kernel
theorem dX9_day_96 : decode cX9_day 96 = .ok (.iload_n 3, 1) := by decide +kernel
theorem dX9_day_97 : decode cX9_day 97 = .ok (.iadd, 1) := by decide +kernel
theorem dX9_day_98 : decode cX9_day 98 = .ok (.istore 7, 2) := by decide +kernel
theorem dX9_day_100 : decode cX9_day 100 = .ok (.iconst 0, 1) := by decide +kernel
theorem dX9_day_101 : decode cX9_day 101 = .ok (.istore 8, 2) := by decide +kernel
theorem dX9_day_103 : decode cX9_day 103 = .ok (.iload 8, 2) := by decide +kernel
theorem dX9_day_105 : decode cX9_day 105 = .ok (.iload 4, 2) := by decide +kernel
theorem dX9_day_107 : decode cX9_day 107 = .ok (.if_icmp .ge 33, 3) := by decide +kernel
theorem dX9_day_110 : decode cX9_day 110 = .ok (.aload_n 0, 1) := by decide +kernel
theorem dX9_day_111 : decode cX9_day 111 = .ok (.getfield 16, 3) := by decide +kernel
theorem dX9_day_114 : decode cX9_day 114 = .ok (.iload 7, 2) := by decide +kernel
theorem dX9_day_116 : decode cX9_day 116 = .ok (.iconst 4, 1) := by decide +kernel
theorem dX9_day_117 : decode cX9_day 117 = .ok (.iload 8, 2) := by decide +kernel
theorem dX9_day_119 : decode cX9_day 119 = .ok (.imul, 1) := by decide +kernel
theorem dX9_day_120 : decode cX9_day 120 = .ok (.iadd, 1) := by decide +kernel
theorem dX9_day_121 : decode cX9_day 121 = .ok (.iaload, 1) := by decide +kernel
theorem dX9_day_122 : decode cX9_day 122 = .ok (.iconst 0, 1) := by decide +kernel
theorem dX9_day_123 : decode cX9_day 123 = .ok (.iconst 4, 1) := by decide +kernel
theorem dX9_day_124 : decode cX9_day 124 = .ok (.invokestatic 77, 3) := by decide +kernel
theorem dX9_day_127 : decode cX9_day 127 = .ok (.ifCond .ne 7, 3) := by decide +kernel
theorem dX9_day_130 : decode cX9_day 130 = .ok (.ldc2_w 75, 3) := by decide +kernel
theorem dX9_day_133 : decode cX9_day 133 = .ok (.lreturn, 1) := by decide +kernel
theorem dX9_day_134 : decode cX9_day 134 = .ok (.iinc 8 1, 3) := by decide +kernel
theorem dX9_day_137 : decode cX9_day 137 = .ok (.goto (-34), 3) := by decide +kernel
theorem dX9_day_140 : decode cX9_day 140 = .ok (.aload_n 0, 1) := by decide +kernel
theorem dX9_day_141 : decode cX9_day 141 = .ok (.invokevirtual 176, 3) := by decide +kernel
theorem dX9_day_144 : decode cX9_day 144 = .ok (.iconst 0, 1) := by decide +kernel
theorem dX9_day_145 : decode cX9_day 145 = .ok (.istore 8, 2) := by decide +kernel
theorem dX9_day_147 : decode cX9_day 147 = .ok (.iload 8, 2) := by decide +kernel
theorem dX9_day_149 : decode cX9_day 149 = .ok (.aload_n 0, 1) := by decide +kernel
theorem dX9_day_150 : decode cX9_day 150 = .ok (.getfield 81, 3) := by decide +kernel
theorem dX9_day_153 : decode cX9_day 153 = .ok (.if_icmp .ge 23, 3) := by decide +kernel
theorem dX9_day_156 : decode cX9_day 156 = .ok (.aload_n 0, 1) := by decide +kernel
theorem dX9_day_157 : decode cX9_day 157 = .ok (.getfield 23, 3) := by decide +kernel
theorem dX9_day_160 : decode cX9_day 160 = .ok (.iload 8, 2) := by decide +kernel
theorem dX9_day_162 : decode cX9_day 162 = .ok (.aload_n 0, 1) := by decide +kernel
theorem dX9_day_163 : decode cX9_day 163 = .ok (.getfield 19, 3) := by decide +kernel
theorem dX9_day_166 : decode cX9_day 166 = .ok (.iload 8, 2) := by decide +kernel
theorem dX9_day_168 : decode cX9_day 168 = .ok (.laload, 1) := by decide +kernel
theorem dX9_day_169 : decode cX9_day 169 = .ok (.lastore, 1) := by decide +kernel
theorem dX9_day_170 : decode cX9_day 170 = .ok (.iinc 8 1, 3) := by decide +kernel
theorem dX9_day_173 : decode cX9_day 173 = .ok (.goto (-26), 3) := by decide +kernel
theorem dX9_day_176 : decode cX9_day 176 = .ok (.aload_n 0, 1) := by decide +kernel
theorem dX9_day_177 : decode cX9_day 177 = .ok (.iload 7, 2) := by decide +kernel
theorem dX9_day_179 : decode cX9_day 179 = .ok (.iload 4, 2) := by decide +kernel
theorem dX9_day_181 : decode cX9_day 181 = .ok (.invokevirtual 179, 3) := by decide +kernel
theorem dX9_day_184 : decode cX9_day 184 = .ok (.istore 8, 2) := by decide +kernel
theorem dX9_day_186 : decode cX9_day 186 = .ok (.aload_n 0, 1) := by decide +kernel
theorem dX9_day_187 : decode cX9_day 187 = .ok (.iload 5, 2) := by decide +kernel
theorem dX9_day_189 : decode cX9_day 189 = .ok (.invokevirtual 183, 3) := by decide +kernel
theorem dX9_day_192 : decode cX9_day 192 = .ok (.lstore 9, 2) := by decide +kernel
theorem dX9_day_194 : decode cX9_day 194 = .ok (.aload_n 0, 1) := by decide +kernel
theorem dX9_day_195 : decode cX9_day 195 = .ok (.invokevirtual 186, 3) := by decide +kernel
theorem dX9_day_198 : decode cX9_day 198 = .ok (.iload 5, 2) := by decide +kernel
theorem dX9_day_200 : decode cX9_day 200 = .ok (.iconst 1, 1) := by decide +kernel
theorem dX9_day_201 : decode cX9_day 201 = .ok (.if_icmp .ne 9, 3) := by decide +kernel
theorem dX9_day_204 : decode cX9_day 204 = .ok (.iload 8, 2) := by decide +kernel
theorem dX9_day_206 : decode cX9_day 206 = .ok (.i2l, 1) := by decide +kernel
theorem dX9_day_207 : decode cX9_day 207 = .ok (.goto 21, 3) := by decide +kernel
theorem dX9_day_210 : decode cX9_day 210 = .ok (.iload 8, 2) := by decide +kernel
theorem dX9_day_212 : decode cX9_day 212 = .ok (.bipush (-9), 2) := by decide +kernel
theorem dX9_day_214 : decode cX9_day 214 = .ok (.if_icmp .ne 8, 3) := by decide +kernel
theorem dX9_day_217 : decode cX9_day 217 = .ok (.lload 9, 2) := by decide +kernel
theorem dX9_day_219 : decode cX9_day 219 = .ok (.goto 9, 3) := by decide +kernel
theorem dX9_day_222 : decode cX9_day 222 = .ok (.bipush (-100), 2) := by decide +kernel
theorem dX9_day_224 : decode cX9_day 224 = .ok (.iload 8, 2) := by decide +kernel
theorem dX9_day_226 : decode cX9_day 226 = .ok (.isub, 1) := by decide +kernel
theorem dX9_day_227 : decode cX9_day 227 = .ok (.i2l, 1) := by decide +kernel
theorem dX9_day_228 : decode cX9_day 228 = .ok (.lreturn, 1) := by decide +kernel
set_option maxRecDepth 20000 in
theorem ggX9_tellDay_X9_isCell : GoodIn wsX9_tellDay wsX9_isCell := goodIn_r _ [8, 3, 26, 27, 28, 29, 30, 31, 32, 33, 34, 35, 36, 37, 38, 39, 40, 41, 42, 43, 44, 45, 46, 47, 48, 49, 50, 51, 52, 53, 54, 55, 56] (by decide +kernel) (by decide +kernel)
set_option maxRecDepth 20000 in
theorem gX9_tellDay_X9_isCell : GoodIn wsX9_tellDay (wsV RX9 142 RX9 yX9_isCell wsX9_isCell) := goodIn_app (goodIn_of _ (by decide +kernel)) ggX9_tellDay_X9_isCell
set_option maxRecDepth 20000 in
theorem ggX9_tellDay_X9_sumOf : GoodIn wsX9_tellDay wsX9_sumOf := goodIn_r _ [12, 1, 26, 27, 28, 29, 30, 31, 32, 33, 34, 35, 36, 37, 38, 39, 40, 41, 42, 43, 44, 45, 46, 47, 48, 49, 50, 51, 52, 53, 54, 55, 56] (by decide +kernel) (by decide +kernel)
set_option maxRecDepth 20000 in
theorem gX9_tellDay_X9_sumOf : GoodIn wsX9_tellDay (wsV RX9 189 RX9 yX9_sumOf wsX9_sumOf) := goodIn_app (goodIn_of _ (by decide +kernel)) ggX9_tellDay_X9_sumOf
set_option maxRecDepth 20000 in
theorem ggX9_tellDay_X9_greatestOf : GoodIn wsX9_tellDay wsX9_greatestOf := goodIn_r _ [16, 1, 26, 27, 28, 29, 30, 31, 32, 33, 34, 35, 36, 37, 38, 39, 40, 41, 42, 43, 44, 45, 46, 47, 48, 49, 50, 51, 52, 53, 54, 55, 56] (by decide +kernel) (by decide +kernel)
set_option maxRecDepth 20000 in
theorem gX9_tellDay_X9_greatestOf : GoodIn wsX9_tellDay (wsV RX9 193 RX9 yX9_greatestOf wsX9_greatestOf) := goodIn_app (goodIn_of _ (by decide +kernel)) ggX9_tellDay_X9_greatestOf
set_option maxRecDepth 20000 in
theorem ggX9_tellDay_X9_leastOf : GoodIn wsX9_tellDay wsX9_leastOf := goodIn_r _ [20, 1, 26, 27, 28, 29, 30, 31, 32, 33, 34, 35, 36, 37, 38, 39, 40, 41, 42, 43, 44, 45, 46, 47, 48, 49, 50, 51, 52, 53, 54, 55, 56] (by decide +kernel) (by decide +kernel)
set_option maxRecDepth 20000 in
theorem gX9_tellDay_X9_leastOf : GoodIn wsX9_tellDay (wsV RX9 196 RX9 yX9_leastOf wsX9_leastOf) := goodIn_app (goodIn_of _ (by decide +kernel)) ggX9_tellDay_X9_leastOf
set_option maxRecDepth 20000 in
theorem ggX9_tellDay_X9_greatestEver : GoodIn wsX9_tellDay wsX9_greatestEver := goodIn_r _ [24, 25, 26, 27, 28, 29, 30, 31, 32, 33, 34, 35, 36, 37, 38, 39, 40, 41, 42, 43, 44, 45, 46, 47, 48, 49, 50, 51, 52, 53, 54, 55, 56] (by decide +kernel) (by decide +kernel)
set_option maxRecDepth 20000 in
theorem gX9_tellDay_X9_greatestEver : GoodIn wsX9_tellDay (wsV RX9 199 RX9 yX9_greatestEver wsX9_greatestEver) := goodIn_app (goodIn_of _ (by decide +kernel)) ggX9_tellDay_X9_greatestEver
theorem dX9_tellDay_0 : decode cX9_tellDay 0 = .ok (.iload_n 1, 1) := by decide +kernel
theorem dX9_tellDay_1 : decode cX9_tellDay 1 = .ok (.bipush 10, 2) := by decide +kernel
theorem dX9_tellDay_3 : decode cX9_tellDay 3 = .ok (.if_icmp .lt 30, 3) := by decide +kernel
theorem dX9_tellDay_6 : decode cX9_tellDay 6 = .ok (.aload_n 0, 1) := by decide +kernel
theorem dX9_tellDay_7 : decode cX9_tellDay 7 = .ok (.iload_n 1, 1) := by decide +kernel
theorem dX9_tellDay_8 : decode cX9_tellDay 8 = .ok (.bipush 10, 2) := by decide +kernel
theorem dX9_tellDay_10 : decode cX9_tellDay 10 = .ok (.isub, 1) := by decide +kernel
theorem dX9_tellDay_11 : decode cX9_tellDay 11 = .ok (.invokevirtual 142, 3) := by decide +kernel
theorem dX9_tellDay_14 : decode cX9_tellDay 14 = .ok (.ifCond .eq 15, 3) := by decide +kernel
theorem dX9_tellDay_17 : decode cX9_tellDay 17 = .ok (.aload_n 0, 1) := by decide +kernel
theorem dX9_tellDay_18 : decode cX9_tellDay 18 = .ok (.getfield 19, 3) := by decide +kernel
theorem dX9_tellDay_21 : decode cX9_tellDay 21 = .ok (.iload_n 1, 1) := by decide +kernel
theorem dX9_tellDay_22 : decode cX9_tellDay 22 = .ok (.bipush 10, 2) := by decide +kernel
theorem dX9_tellDay_24 : decode cX9_tellDay 24 = .ok (.isub, 1) := by decide +kernel
theorem dX9_tellDay_25 : decode cX9_tellDay 25 = .ok (.laload, 1) := by decide +kernel
theorem dX9_tellDay_26 : decode cX9_tellDay 26 = .ok (.goto 6, 3) := by decide +kernel
theorem dX9_tellDay_29 : decode cX9_tellDay 29 = .ok (.ldc2_w 75, 3) := by decide +kernel
theorem dX9_tellDay_32 : decode cX9_tellDay 32 = .ok (.lreturn, 1) := by decide +kernel
theorem dX9_tellDay_33 : decode cX9_tellDay 33 = .ok (.aload_n 0, 1) := by decide +kernel
theorem dX9_tellDay_34 : decode cX9_tellDay 34 = .ok (.getfield 81, 3) := by decide +kernel
theorem dX9_tellDay_37 : decode cX9_tellDay 37 = .ok (.iconst 1, 1) := by decide +kernel
theorem dX9_tellDay_38 : decode cX9_tellDay 38 = .ok (.isub, 1) := by decide +kernel
theorem dX9_tellDay_39 : decode cX9_tellDay 39 = .ok (.istore_n 2, 1) := by decide +kernel
theorem dX9_tellDay_40 : decode cX9_tellDay 40 = .ok (.iload_n 1, 1) := by decide +kernel
theorem dX9_tellDay_41 : decode cX9_tellDay 41 = .ok (.ifCond .ne 12, 3) := by decide +kernel
theorem dX9_tellDay_44 : decode cX9_tellDay 44 = .ok (.aload_n 0, 1) := by decide +kernel
theorem dX9_tellDay_45 : decode cX9_tellDay 45 = .ok (.iconst 0, 1) := by decide +kernel
theorem dX9_tellDay_46 : decode cX9_tellDay 46 = .ok (.iload_n 2, 1) := by decide +kernel
theorem dX9_tellDay_47 : decode cX9_tellDay 47 = .ok (.invokevirtual 189, 3) := by decide +kernel
theorem dX9_tellDay_50 : decode cX9_tellDay 50 = .ok (.goto 37, 3) := by decide +kernel
theorem dX9_tellDay_53 : decode cX9_tellDay 53 = .ok (.iload_n 1, 1) := by decide +kernel
theorem dX9_tellDay_54 : decode cX9_tellDay 54 = .ok (.iconst 2, 1) := by decide +kernel
theorem dX9_tellDay_55 : decode cX9_tellDay 55 = .ok (.if_icmp .ne 12, 3) := by decide +kernel
theorem dX9_tellDay_58 : decode cX9_tellDay 58 = .ok (.aload_n 0, 1) := by decide +kernel
theorem dX9_tellDay_59 : decode cX9_tellDay 59 = .ok (.iconst 0, 1) := by decide +kernel
theorem dX9_tellDay_60 : decode cX9_tellDay 60 = .ok (.iload_n 2, 1) := by decide +kernel
theorem dX9_tellDay_61 : decode cX9_tellDay 61 = .ok (.invokevirtual 193, 3) := by decide +kernel
theorem dX9_tellDay_64 : decode cX9_tellDay 64 = .ok (.goto 23, 3) := by decide +kernel
theorem dX9_tellDay_67 : decode cX9_tellDay 67 = .ok (.iload_n 1, 1) := by decide +kernel
theorem dX9_tellDay_68 : decode cX9_tellDay 68 = .ok (.iconst 3, 1) := by decide +kernel
theorem dX9_tellDay_69 : decode cX9_tellDay 69 = .ok (.if_icmp .ne 12, 3) := by decide +kernel
theorem dX9_tellDay_72 : decode cX9_tellDay 72 = .ok (.aload_n 0, 1) := by decide +kernel
theorem dX9_tellDay_73 : decode cX9_tellDay 73 = .ok (.iconst 0, 1) := by decide +kernel
theorem dX9_tellDay_74 : decode cX9_tellDay 74 = .ok (.iload_n 2, 1) := by decide +kernel
theorem dX9_tellDay_75 : decode cX9_tellDay 75 = .ok (.invokevirtual 196, 3) := by decide +kernel
theorem dX9_tellDay_78 : decode cX9_tellDay 78 = .ok (.goto 9, 3) := by decide +kernel
theorem dX9_tellDay_81 : decode cX9_tellDay 81 = .ok (.aload_n 0, 1) := by decide +kernel
theorem dX9_tellDay_82 : decode cX9_tellDay 82 = .ok (.iconst 0, 1) := by decide +kernel
theorem dX9_tellDay_83 : decode cX9_tellDay 83 = .ok (.iload_n 2, 1) := by decide +kernel
theorem dX9_tellDay_84 : decode cX9_tellDay 84 = .ok (.invokevirtual 199, 3) := by decide +kernel
theorem dX9_tellDay_87 : decode cX9_tellDay 87 = .ok (.lreturn, 1) := by decide +kernel
theorem dX9_sumOf_0 : decode cX9_sumOf 0 = .ok (.lconst 0, 1) := by decide +kernel
theorem dX9_sumOf_1 : decode cX9_sumOf 1 = .ok (.lstore_n 3, 1) := by decide +kernel
theorem dX9_sumOf_2 : decode cX9_sumOf 2 = .ok (.iload_n 1, 1) := by decide +kernel
theorem dX9_sumOf_3 : decode cX9_sumOf 3 = .ok (.istore 5, 2) := by decide +kernel
theorem dX9_sumOf_5 : decode cX9_sumOf 5 = .ok (.iload 5, 2) := by decide +kernel
theorem dX9_sumOf_7 : decode cX9_sumOf 7 = .ok (.iload_n 2, 1) := by decide +kernel
theorem dX9_sumOf_8 : decode cX9_sumOf 8 = .ok (.if_icmp .gt 19, 3) := by decide +kernel
theorem dX9_sumOf_11 : decode cX9_sumOf 11 = .ok (.lload_n 3, 1) := by decide +kernel
theorem dX9_sumOf_12 : decode cX9_sumOf 12 = .ok (.aload_n 0, 1) := by decide +kernel
theorem dX9_sumOf_13 : decode cX9_sumOf 13 = .ok (.getfield 19, 3) := by decide +kernel
theorem dX9_sumOf_16 : decode cX9_sumOf 16 = .ok (.iload 5, 2) := by decide +kernel
theorem dX9_sumOf_18 : decode cX9_sumOf 18 = .ok (.laload, 1) := by decide +kernel
theorem dX9_sumOf_19 : decode cX9_sumOf 19 = .ok (.ladd, 1) := by decide +kernel
theorem dX9_sumOf_20 : decode cX9_sumOf 20 = .ok (.lstore_n 3, 1) := by decide +kernel
theorem dX9_sumOf_21 : decode cX9_sumOf 21 = .ok (.iinc 5 1, 3) := by decide +kernel
theorem dX9_sumOf_24 : decode cX9_sumOf 24 = .ok (.goto (-19), 3) := by decide +kernel
theorem dX9_sumOf_27 : decode cX9_sumOf 27 = .ok (.lload_n 3, 1) := by decide +kernel
theorem dX9_sumOf_28 : decode cX9_sumOf 28 = .ok (.lreturn, 1) := by decide +kernel
theorem dX9_greatestOf_0 : decode cX9_greatestOf 0 = .ok (.aload_n 0, 1) := by decide +kernel
theorem dX9_greatestOf_1 : decode cX9_greatestOf 1 = .ok (.getfield 19, 3) := by decide +kernel
theorem dX9_greatestOf_4 : decode cX9_greatestOf 4 = .ok (.iload_n 1, 1) := by decide +kernel
theorem dX9_greatestOf_5 : decode cX9_greatestOf 5 = .ok (.laload, 1) := by decide +kernel
theorem dX9_greatestOf_6 : decode cX9_greatestOf 6 = .ok (.lstore_n 3, 1) := by decide +kernel
theorem dX9_greatestOf_7 : decode cX9_greatestOf 7 = .ok (.iload_n 1, 1) := by decide +kernel
theorem dX9_greatestOf_8 : decode cX9_greatestOf 8 = .ok (.istore 5, 2) := by decide +kernel
theorem dX9_greatestOf_10 : decode cX9_greatestOf 10 = .ok (.iload 5, 2) := by decide +kernel
theorem dX9_greatestOf_12 : decode cX9_greatestOf 12 = .ok (.iload_n 2, 1) := by decide +kernel
theorem dX9_greatestOf_13 : decode cX9_greatestOf 13 = .ok (.if_icmp .gt 33, 3) := by decide +kernel
theorem dX9_greatestOf_16 : decode cX9_greatestOf 16 = .ok (.aload_n 0, 1) := by decide +kernel
theorem dX9_greatestOf_17 : decode cX9_greatestOf 17 = .ok (.getfield 19, 3) := by decide +kernel
theorem dX9_greatestOf_20 : decode cX9_greatestOf 20 = .ok (.iload 5, 2) := by decide +kernel
theorem dX9_greatestOf_22 : decode cX9_greatestOf 22 = .ok (.laload, 1) := by decide +kernel
theorem dX9_greatestOf_23 : decode cX9_greatestOf 23 = .ok (.lload_n 3, 1) := by decide +kernel
theorem dX9_greatestOf_24 : decode cX9_greatestOf 24 = .ok (.lcmp, 1) := by decide +kernel
theorem dX9_greatestOf_25 : decode cX9_greatestOf 25 = .ok (.ifCond .le 13, 3) := by decide +kernel
theorem dX9_greatestOf_28 : decode cX9_greatestOf 28 = .ok (.aload_n 0, 1) := by decide +kernel
theorem dX9_greatestOf_29 : decode cX9_greatestOf 29 = .ok (.getfield 19, 3) := by decide +kernel
theorem dX9_greatestOf_32 : decode cX9_greatestOf 32 = .ok (.iload 5, 2) := by decide +kernel
theorem dX9_greatestOf_34 : decode cX9_greatestOf 34 = .ok (.laload, 1) := by decide +kernel
theorem dX9_greatestOf_35 : decode cX9_greatestOf 35 = .ok (.goto 4, 3) := by decide +kernel
theorem dX9_greatestOf_38 : decode cX9_greatestOf 38 = .ok (.lload_n 3, 1) := by decide +kernel
theorem dX9_greatestOf_39 : decode cX9_greatestOf 39 = .ok (.lstore_n 3, 1) := by decide +kernel
theorem dX9_greatestOf_40 : decode cX9_greatestOf 40 = .ok (.iinc 5 1, 3) := by decide +kernel
theorem dX9_greatestOf_43 : decode cX9_greatestOf 43 = .ok (.goto (-33), 3) := by decide +kernel
theorem dX9_greatestOf_46 : decode cX9_greatestOf 46 = .ok (.lload_n 3, 1) := by decide +kernel
theorem dX9_greatestOf_47 : decode cX9_greatestOf 47 = .ok (.lreturn, 1) := by decide +kernel
theorem dX9_leastOf_0 : decode cX9_leastOf 0 = .ok (.aload_n 0, 1) := by decide +kernel
theorem dX9_leastOf_1 : decode cX9_leastOf 1 = .ok (.getfield 19, 3) := by decide +kernel
theorem dX9_leastOf_4 : decode cX9_leastOf 4 = .ok (.iload_n 1, 1) := by decide +kernel
theorem dX9_leastOf_5 : decode cX9_leastOf 5 = .ok (.laload, 1) := by decide +kernel
theorem dX9_leastOf_6 : decode cX9_leastOf 6 = .ok (.lstore_n 3, 1) := by decide +kernel
theorem dX9_leastOf_7 : decode cX9_leastOf 7 = .ok (.iload_n 1, 1) := by decide +kernel
theorem dX9_leastOf_8 : decode cX9_leastOf 8 = .ok (.istore 5, 2) := by decide +kernel
theorem dX9_leastOf_10 : decode cX9_leastOf 10 = .ok (.iload 5, 2) := by decide +kernel
theorem dX9_leastOf_12 : decode cX9_leastOf 12 = .ok (.iload_n 2, 1) := by decide +kernel
theorem dX9_leastOf_13 : decode cX9_leastOf 13 = .ok (.if_icmp .gt 33, 3) := by decide +kernel
theorem dX9_leastOf_16 : decode cX9_leastOf 16 = .ok (.aload_n 0, 1) := by decide +kernel
theorem dX9_leastOf_17 : decode cX9_leastOf 17 = .ok (.getfield 19, 3) := by decide +kernel
theorem dX9_leastOf_20 : decode cX9_leastOf 20 = .ok (.iload 5, 2) := by decide +kernel
theorem dX9_leastOf_22 : decode cX9_leastOf 22 = .ok (.laload, 1) := by decide +kernel
theorem dX9_leastOf_23 : decode cX9_leastOf 23 = .ok (.lload_n 3, 1) := by decide +kernel
theorem dX9_leastOf_24 : decode cX9_leastOf 24 = .ok (.lcmp, 1) := by decide +kernel
theorem dX9_leastOf_25 : decode cX9_leastOf 25 = .ok (.ifCond .ge 13, 3) := by decide +kernel
theorem dX9_leastOf_28 : decode cX9_leastOf 28 = .ok (.aload_n 0, 1) := by decide +kernel
theorem dX9_leastOf_29 : decode cX9_leastOf 29 = .ok (.getfield 19, 3) := by decide +kernel
theorem dX9_leastOf_32 : decode cX9_leastOf 32 = .ok (.iload 5, 2) := by decide +kernel
theorem dX9_leastOf_34 : decode cX9_leastOf 34 = .ok (.laload, 1) := by decide +kernel
theorem dX9_leastOf_35 : decode cX9_leastOf 35 = .ok (.goto 4, 3) := by decide +kernel
theorem dX9_leastOf_38 : decode cX9_leastOf 38 = .ok (.lload_n 3, 1) := by decide +kernel
theorem dX9_leastOf_39 : decode cX9_leastOf 39 = .ok (.lstore_n 3, 1) := by decide +kernel
theorem dX9_leastOf_40 : decode cX9_leastOf 40 = .ok (.iinc 5 1, 3) := by decide +kernel
theorem dX9_leastOf_43 : decode cX9_leastOf 43 = .ok (.goto (-33), 3) := by decide +kernel
theorem dX9_leastOf_46 : decode cX9_leastOf 46 = .ok (.lload_n 3, 1) := by decide +kernel
theorem dX9_leastOf_47 : decode cX9_leastOf 47 = .ok (.lreturn, 1) := by decide +kernel
set_option maxRecDepth 20000 in
theorem ggX9_manyGreatest_X9_greatestOf : GoodIn wsX9_manyGreatest wsX9_greatestOf := goodIn_r _ [6, 1, 7, 8, 9, 10, 11, 12, 13, 14, 15, 16, 17, 18, 19, 20, 21, 22, 23, 24, 25, 26, 27, 28, 29, 30, 31, 32, 33, 34, 35, 36, 37] (by decide +kernel) (by decide +kernel)
set_option maxRecDepth 20000 in
theorem gX9_manyGreatest_X9_greatestOf : GoodIn wsX9_manyGreatest (wsV RX9 193 RX9 yX9_greatestOf wsX9_greatestOf) := goodIn_app (goodIn_of _ (by decide +kernel)) ggX9_manyGreatest_X9_greatestOf
theorem dX9_manyGreatest_0 : decode cX9_manyGreatest 0 = .ok (.aload_n 0, 1) := by decide +kernel
theorem dX9_manyGreatest_1 : decode cX9_manyGreatest 1 = .ok (.iload_n 1, 1) := by decide +kernel
theorem dX9_manyGreatest_2 : decode cX9_manyGreatest 2 = .ok (.iload_n 2, 1) := by decide +kernel
theorem dX9_manyGreatest_3 : decode cX9_manyGreatest 3 = .ok (.invokevirtual 193, 3) := by decide +kernel
theorem dX9_manyGreatest_6 : decode cX9_manyGreatest 6 = .ok (.lstore_n 3, 1) := by decide +kernel
theorem dX9_manyGreatest_7 : decode cX9_manyGreatest 7 = .ok (.iconst 0, 1) := by decide +kernel
theorem dX9_manyGreatest_8 : decode cX9_manyGreatest 8 = .ok (.istore 5, 2) := by decide +kernel
theorem dX9_manyGreatest_10 : decode cX9_manyGreatest 10 = .ok (.iload_n 1, 1) := by decide +kernel
theorem dX9_manyGreatest_11 : decode cX9_manyGreatest 11 = .ok (.istore 6, 2) := by decide +kernel
theorem dX9_manyGreatest_13 : decode cX9_manyGreatest 13 = .ok (.iload 6, 2) := by decide +kernel
theorem dX9_manyGreatest_15 : decode cX9_manyGreatest 15 = .ok (.iload_n 2, 1) := by decide +kernel
theorem dX9_manyGreatest_16 : decode cX9_manyGreatest 16 = .ok (.if_icmp .gt 31, 3) := by decide +kernel
theorem dX9_manyGreatest_19 : decode cX9_manyGreatest 19 = .ok (.iload 5, 2) := by decide +kernel
theorem dX9_manyGreatest_21 : decode cX9_manyGreatest 21 = .ok (.aload_n 0, 1) := by decide +kernel
theorem dX9_manyGreatest_22 : decode cX9_manyGreatest 22 = .ok (.getfield 19, 3) := by decide +kernel
theorem dX9_manyGreatest_25 : decode cX9_manyGreatest 25 = .ok (.iload 6, 2) := by decide +kernel
theorem dX9_manyGreatest_27 : decode cX9_manyGreatest 27 = .ok (.laload, 1) := by decide +kernel
theorem dX9_manyGreatest_28 : decode cX9_manyGreatest 28 = .ok (.lload_n 3, 1) := by decide +kernel
theorem dX9_manyGreatest_29 : decode cX9_manyGreatest 29 = .ok (.lcmp, 1) := by decide +kernel
theorem dX9_manyGreatest_30 : decode cX9_manyGreatest 30 = .ok (.ifCond .ne 7, 3) := by decide +kernel
theorem dX9_manyGreatest_33 : decode cX9_manyGreatest 33 = .ok (.iconst 1, 1) := by decide +kernel
theorem dX9_manyGreatest_34 : decode cX9_manyGreatest 34 = .ok (.goto 4, 3) := by decide +kernel
theorem dX9_manyGreatest_37 : decode cX9_manyGreatest 37 = .ok (.iconst 0, 1) := by decide +kernel
theorem dX9_manyGreatest_38 : decode cX9_manyGreatest 38 = .ok (.iadd, 1) := by decide +kernel
theorem dX9_manyGreatest_39 : decode cX9_manyGreatest 39 = .ok (.istore 5, 2) := by decide +kernel
theorem dX9_manyGreatest_41 : decode cX9_manyGreatest 41 = .ok (.iinc 6 1, 3) := by decide +kernel
theorem dX9_manyGreatest_44 : decode cX9_manyGreatest 44 = .ok (.goto (-31), 3) := by decide +kernel
theorem dX9_manyGreatest_47 : decode cX9_manyGreatest 47 = .ok (.iload 5, 2) := by decide +kernel
theorem dX9_manyGreatest_49 : decode cX9_manyGreatest 49 = .ok (.ireturn, 1) := by decide +kernel
set_option maxRecDepth 20000 in
theorem ggX9_secondOf_X9_greatestOf : GoodIn wsX9_secondOf wsX9_greatestOf := goodIn_r _ [7, 2, 8, 9, 10, 11, 12, 13, 14, 15, 16, 17, 18, 19, 20, 21, 22, 23, 24, 25, 26, 27, 28, 29, 30, 31, 32, 33, 34, 35, 36, 37, 38] (by decide +kernel) (by decide +kernel)
set_option maxRecDepth 20000 in
theorem gX9_secondOf_X9_greatestOf : GoodIn wsX9_secondOf (wsV RX9 193 RX9 yX9_greatestOf wsX9_greatestOf) := goodIn_app (goodIn_of _ (by decide +kernel)) ggX9_secondOf_X9_greatestOf
theorem dX9_secondOf_0 : decode cX9_secondOf 0 = .ok (.aload_n 0, 1) := by decide +kernel
theorem dX9_secondOf_1 : decode cX9_secondOf 1 = .ok (.iload_n 1, 1) := by decide +kernel
theorem dX9_secondOf_2 : decode cX9_secondOf 2 = .ok (.iload_n 2, 1) := by decide +kernel
theorem dX9_secondOf_3 : decode cX9_secondOf 3 = .ok (.invokevirtual 193, 3) := by decide +kernel
theorem dX9_secondOf_6 : decode cX9_secondOf 6 = .ok (.lstore_n 3, 1) := by decide +kernel
theorem dX9_secondOf_7 : decode cX9_secondOf 7 = .ok (.ldc2_w 75, 3) := by decide +kernel
theorem dX9_secondOf_10 : decode cX9_secondOf 10 = .ok (.lstore 5, 2) := by decide +kernel
theorem dX9_secondOf_12 : decode cX9_secondOf 12 = .ok (.iload_n 1, 1) := by decide +kernel
theorem dX9_secondOf_13 : decode cX9_secondOf 13 = .ok (.istore 7, 2) := by decide +kernel
theorem dX9_secondOf_15 : decode cX9_secondOf 15 = .ok (.iload 7, 2) := by decide +kernel
theorem dX9_secondOf_17 : decode cX9_secondOf 17 = .ok (.iload_n 2, 1) := by decide +kernel
theorem dX9_secondOf_18 : decode cX9_secondOf 18 = .ok (.if_icmp .gt 48, 3) := by decide +kernel
theorem dX9_secondOf_21 : decode cX9_secondOf 21 = .ok (.aload_n 0, 1) := by decide +kernel
theorem dX9_secondOf_22 : decode cX9_secondOf 22 = .ok (.getfield 19, 3) := by decide +kernel
theorem dX9_secondOf_25 : decode cX9_secondOf 25 = .ok (.iload 7, 2) := by decide +kernel
theorem dX9_secondOf_27 : decode cX9_secondOf 27 = .ok (.laload, 1) := by decide +kernel
theorem dX9_secondOf_28 : decode cX9_secondOf 28 = .ok (.lload_n 3, 1) := by decide +kernel
theorem dX9_secondOf_29 : decode cX9_secondOf 29 = .ok (.lcmp, 1) := by decide +kernel
theorem dX9_secondOf_30 : decode cX9_secondOf 30 = .ok (.ifCond .ge 26, 3) := by decide +kernel
theorem dX9_secondOf_33 : decode cX9_secondOf 33 = .ok (.aload_n 0, 1) := by decide +kernel
theorem dX9_secondOf_34 : decode cX9_secondOf 34 = .ok (.getfield 19, 3) := by decide +kernel
theorem dX9_secondOf_37 : decode cX9_secondOf 37 = .ok (.iload 7, 2) := by decide +kernel
theorem dX9_secondOf_39 : decode cX9_secondOf 39 = .ok (.laload, 1) := by decide +kernel
theorem dX9_secondOf_40 : decode cX9_secondOf 40 = .ok (.lload 5, 2) := by decide +kernel
theorem dX9_secondOf_42 : decode cX9_secondOf 42 = .ok (.lcmp, 1) := by decide +kernel
theorem dX9_secondOf_43 : decode cX9_secondOf 43 = .ok (.ifCond .le 13, 3) := by decide +kernel
theorem dX9_secondOf_46 : decode cX9_secondOf 46 = .ok (.aload_n 0, 1) := by decide +kernel
theorem dX9_secondOf_47 : decode cX9_secondOf 47 = .ok (.getfield 19, 3) := by decide +kernel
theorem dX9_secondOf_50 : decode cX9_secondOf 50 = .ok (.iload 7, 2) := by decide +kernel
theorem dX9_secondOf_52 : decode cX9_secondOf 52 = .ok (.laload, 1) := by decide +kernel
theorem dX9_secondOf_53 : decode cX9_secondOf 53 = .ok (.goto 5, 3) := by decide +kernel
theorem dX9_secondOf_56 : decode cX9_secondOf 56 = .ok (.lload 5, 2) := by decide +kernel
theorem dX9_secondOf_58 : decode cX9_secondOf 58 = .ok (.lstore 5, 2) := by decide +kernel
theorem dX9_secondOf_60 : decode cX9_secondOf 60 = .ok (.iinc 7 1, 3) := by decide +kernel
theorem dX9_secondOf_63 : decode cX9_secondOf 63 = .ok (.goto (-48), 3) := by decide +kernel
theorem dX9_secondOf_66 : decode cX9_secondOf 66 = .ok (.lload 5, 2) := by decide +kernel
theorem dX9_secondOf_68 : decode cX9_secondOf 68 = .ok (.lreturn, 1) := by decide +kernel
theorem dX9_unlikeIn_0 : decode cX9_unlikeIn 0 = .ok (.iconst 0, 1) := by decide +kernel
theorem dX9_unlikeIn_1 : decode cX9_unlikeIn 1 = .ok (.istore_n 3, 1) := by decide +kernel
theorem dX9_unlikeIn_2 : decode cX9_unlikeIn 2 = .ok (.iload_n 1, 1) := by decide +kernel
theorem dX9_unlikeIn_3 : decode cX9_unlikeIn 3 = .ok (.istore 4, 2) := by decide +kernel
theorem dX9_unlikeIn_5 : decode cX9_unlikeIn 5 = .ok (.iload 4, 2) := by decide +kernel
theorem dX9_unlikeIn_7 : decode cX9_unlikeIn 7 = .ok (.iload_n 2, 1) := by decide +kernel
theorem dX9_unlikeIn_8 : decode cX9_unlikeIn 8 = .ok (.if_icmp .gt 71, 3) := by decide +kernel
theorem dX9_unlikeIn_11 : decode cX9_unlikeIn 11 = .ok (.iconst 1, 1) := by decide +kernel
theorem dX9_unlikeIn_12 : decode cX9_unlikeIn 12 = .ok (.istore 5, 2) := by decide +kernel
theorem dX9_unlikeIn_14 : decode cX9_unlikeIn 14 = .ok (.iload_n 1, 1) := by decide +kernel
theorem dX9_unlikeIn_15 : decode cX9_unlikeIn 15 = .ok (.istore 6, 2) := by decide +kernel
theorem dX9_unlikeIn_17 : decode cX9_unlikeIn 17 = .ok (.iload 6, 2) := by decide +kernel
theorem dX9_unlikeIn_19 : decode cX9_unlikeIn 19 = .ok (.iload 4, 2) := by decide +kernel
theorem dX9_unlikeIn_21 : decode cX9_unlikeIn 21 = .ok (.if_icmp .ge 39, 3) := by decide +kernel
theorem dX9_unlikeIn_24 : decode cX9_unlikeIn 24 = .ok (.iload 5, 2) := by decide +kernel
theorem dX9_unlikeIn_26 : decode cX9_unlikeIn 26 = .ok (.ifCond .eq 34, 3) := by decide +kernel
theorem dX9_unlikeIn_29 : decode cX9_unlikeIn 29 = .ok (.aload_n 0, 1) := by decide +kernel
theorem dX9_unlikeIn_30 : decode cX9_unlikeIn 30 = .ok (.getfield 19, 3) := by decide +kernel
theorem dX9_unlikeIn_33 : decode cX9_unlikeIn 33 = .ok (.iload 6, 2) := by decide +kernel
theorem dX9_unlikeIn_35 : decode cX9_unlikeIn 35 = .ok (.laload, 1) := by decide +kernel
theorem dX9_unlikeIn_36 : decode cX9_unlikeIn 36 = .ok (.aload_n 0, 1) := by decide +kernel
theorem dX9_unlikeIn_37 : decode cX9_unlikeIn 37 = .ok (.getfield 19, 3) := by decide +kernel
theorem dX9_unlikeIn_40 : decode cX9_unlikeIn 40 = .ok (.iload 4, 2) := by decide +kernel
theorem dX9_unlikeIn_42 : decode cX9_unlikeIn 42 = .ok (.laload, 1) := by decide +kernel
theorem dX9_unlikeIn_43 : decode cX9_unlikeIn 43 = .ok (.lcmp, 1) := by decide +kernel
theorem dX9_unlikeIn_44 : decode cX9_unlikeIn 44 = .ok (.ifCond .eq 7, 3) := by decide +kernel
theorem dX9_unlikeIn_47 : decode cX9_unlikeIn 47 = .ok (.iconst 1, 1) := by decide +kernel
theorem dX9_unlikeIn_48 : decode cX9_unlikeIn 48 = .ok (.goto 4, 3) := by decide +kernel
theorem dX9_unlikeIn_51 : decode cX9_unlikeIn 51 = .ok (.iconst 0, 1) := by decide +kernel
theorem dX9_unlikeIn_52 : decode cX9_unlikeIn 52 = .ok (.istore 5, 2) := by decide +kernel
theorem dX9_unlikeIn_54 : decode cX9_unlikeIn 54 = .ok (.iinc 6 1, 3) := by decide +kernel
theorem dX9_unlikeIn_57 : decode cX9_unlikeIn 57 = .ok (.goto (-40), 3) := by decide +kernel
theorem dX9_unlikeIn_60 : decode cX9_unlikeIn 60 = .ok (.iload_n 3, 1) := by decide +kernel
theorem dX9_unlikeIn_61 : decode cX9_unlikeIn 61 = .ok (.iload 5, 2) := by decide +kernel
theorem dX9_unlikeIn_63 : decode cX9_unlikeIn 63 = .ok (.ifCond .eq 7, 3) := by decide +kernel
theorem dX9_unlikeIn_66 : decode cX9_unlikeIn 66 = .ok (.iconst 1, 1) := by decide +kernel
theorem dX9_unlikeIn_67 : decode cX9_unlikeIn 67 = .ok (.goto 4, 3) := by decide +kernel
theorem dX9_unlikeIn_70 : decode cX9_unlikeIn 70 = .ok (.iconst 0, 1) := by decide +kernel
theorem dX9_unlikeIn_71 : decode cX9_unlikeIn 71 = .ok (.iadd, 1) := by decide +kernel
theorem dX9_unlikeIn_72 : decode cX9_unlikeIn 72 = .ok (.istore_n 3, 1) := by decide +kernel
theorem dX9_unlikeIn_73 : decode cX9_unlikeIn 73 = .ok (.iinc 4 1, 3) := by decide +kernel
theorem dX9_unlikeIn_76 : decode cX9_unlikeIn 76 = .ok (.goto (-71), 3) := by decide +kernel
theorem dX9_unlikeIn_79 : decode cX9_unlikeIn 79 = .ok (.iload_n 3, 1) := by decide +kernel
theorem dX9_unlikeIn_80 : decode cX9_unlikeIn 80 = .ok (.ireturn, 1) := by decide +kernel
theorem dX9_greatestEver_0 : decode cX9_greatestEver 0 = .ok (.aload_n 0, 1) := by decide +kernel
theorem dX9_greatestEver_1 : decode cX9_greatestEver 1 = .ok (.getfield 23, 3) := by decide +kernel
theorem dX9_greatestEver_4 : decode cX9_greatestEver 4 = .ok (.iload_n 1, 1) := by decide +kernel
theorem dX9_greatestEver_5 : decode cX9_greatestEver 5 = .ok (.laload, 1) := by decide +kernel
theorem dX9_greatestEver_6 : decode cX9_greatestEver 6 = .ok (.lstore_n 3, 1) := by decide +kernel
theorem dX9_greatestEver_7 : decode cX9_greatestEver 7 = .ok (.iload_n 1, 1) := by decide +kernel
theorem dX9_greatestEver_8 : decode cX9_greatestEver 8 = .ok (.istore 5, 2) := by decide +kernel
theorem dX9_greatestEver_10 : decode cX9_greatestEver 10 = .ok (.iload 5, 2) := by decide +kernel
theorem dX9_greatestEver_12 : decode cX9_greatestEver 12 = .ok (.iload_n 2, 1) := by decide +kernel
theorem dX9_greatestEver_13 : decode cX9_greatestEver 13 = .ok (.if_icmp .gt 33, 3) := by decide +kernel
theorem dX9_greatestEver_16 : decode cX9_greatestEver 16 = .ok (.aload_n 0, 1) := by decide +kernel
theorem dX9_greatestEver_17 : decode cX9_greatestEver 17 = .ok (.getfield 23, 3) := by decide +kernel
theorem dX9_greatestEver_20 : decode cX9_greatestEver 20 = .ok (.iload 5, 2) := by decide +kernel
theorem dX9_greatestEver_22 : decode cX9_greatestEver 22 = .ok (.laload, 1) := by decide +kernel
theorem dX9_greatestEver_23 : decode cX9_greatestEver 23 = .ok (.lload_n 3, 1) := by decide +kernel
theorem dX9_greatestEver_24 : decode cX9_greatestEver 24 = .ok (.lcmp, 1) := by decide +kernel
theorem dX9_greatestEver_25 : decode cX9_greatestEver 25 = .ok (.ifCond .le 13, 3) := by decide +kernel
theorem dX9_greatestEver_28 : decode cX9_greatestEver 28 = .ok (.aload_n 0, 1) := by decide +kernel
theorem dX9_greatestEver_29 : decode cX9_greatestEver 29 = .ok (.getfield 23, 3) := by decide +kernel
theorem dX9_greatestEver_32 : decode cX9_greatestEver 32 = .ok (.iload 5, 2) := by decide +kernel
theorem dX9_greatestEver_34 : decode cX9_greatestEver 34 = .ok (.laload, 1) := by decide +kernel
theorem dX9_greatestEver_35 : decode cX9_greatestEver 35 = .ok (.goto 4, 3) := by decide +kernel
theorem dX9_greatestEver_38 : decode cX9_greatestEver 38 = .ok (.lload_n 3, 1) := by decide +kernel
theorem dX9_greatestEver_39 : decode cX9_greatestEver 39 = .ok (.lstore_n 3, 1) := by decide +kernel
theorem dX9_greatestEver_40 : decode cX9_greatestEver 40 = .ok (.iinc 5 1, 3) := by decide +kernel
theorem dX9_greatestEver_43 : decode cX9_greatestEver 43 = .ok (.goto (-33), 3) := by decide +kernel
theorem dX9_greatestEver_46 : decode cX9_greatestEver 46 = .ok (.lload_n 3, 1) := by decide +kernel
theorem dX9_greatestEver_47 : decode cX9_greatestEver 47 = .ok (.lreturn, 1) := by decide +kernel
set_option maxRecDepth 20000 in
theorem ggX9_ask_X9_isCell : GoodIn wsX9_ask wsX9_isCell := goodIn_r _ [7, 8, 38, 39, 40, 41, 42, 43, 44, 45, 46, 47, 48, 49, 50, 51, 52, 53, 54, 55, 56, 57, 58, 59, 60, 61, 62, 63, 64, 65, 66, 67, 68] (by decide +kernel) (by decide +kernel)
set_option maxRecDepth 20000 in
theorem gX9_ask_X9_isCell : GoodIn wsX9_ask (wsV RX9 142 RX9 yX9_isCell wsX9_isCell) := goodIn_app (goodIn_of _ (by decide +kernel)) ggX9_ask_X9_isCell
set_option maxRecDepth 20000 in
theorem ggX9_ask_X9_sumOf : GoodIn wsX9_ask wsX9_sumOf := goodIn_r _ [12, 13, 38, 39, 40, 41, 42, 43, 44, 45, 46, 47, 48, 49, 50, 51, 52, 53, 54, 55, 56, 57, 58, 59, 60, 61, 62, 63, 64, 65, 66, 67, 68] (by decide +kernel) (by decide +kernel)
set_option maxRecDepth 20000 in
theorem gX9_ask_X9_sumOf : GoodIn wsX9_ask (wsV RX9 189 RX9 yX9_sumOf wsX9_sumOf) := goodIn_app (goodIn_of _ (by decide +kernel)) ggX9_ask_X9_sumOf
set_option maxRecDepth 20000 in
theorem ggX9_ask_X9_greatestOf : GoodIn wsX9_ask wsX9_greatestOf := goodIn_r _ [17, 13, 38, 39, 40, 41, 42, 43, 44, 45, 46, 47, 48, 49, 50, 51, 52, 53, 54, 55, 56, 57, 58, 59, 60, 61, 62, 63, 64, 65, 66, 67, 68] (by decide +kernel) (by decide +kernel)
set_option maxRecDepth 20000 in
theorem gX9_ask_X9_greatestOf : GoodIn wsX9_ask (wsV RX9 193 RX9 yX9_greatestOf wsX9_greatestOf) := goodIn_app (goodIn_of _ (by decide +kernel)) ggX9_ask_X9_greatestOf
set_option maxRecDepth 20000 in
theorem ggX9_ask_X9_leastOf : GoodIn wsX9_ask wsX9_leastOf := goodIn_r _ [21, 13, 38, 39, 40, 41, 42, 43, 44, 45, 46, 47, 48, 49, 50, 51, 52, 53, 54, 55, 56, 57, 58, 59, 60, 61, 62, 63, 64, 65, 66, 67, 68] (by decide +kernel) (by decide +kernel)
set_option maxRecDepth 20000 in
theorem gX9_ask_X9_leastOf : GoodIn wsX9_ask (wsV RX9 196 RX9 yX9_leastOf wsX9_leastOf) := goodIn_app (goodIn_of _ (by decide +kernel)) ggX9_ask_X9_leastOf
set_option maxRecDepth 20000 in
theorem ggX9_ask_X9_manyGreatest : GoodIn wsX9_ask wsX9_manyGreatest := goodIn_r _ [25, 13, 14, 15, 16, 6, 17, 38, 39, 40, 41, 42, 43, 44, 45, 46, 47, 48, 49, 50, 51, 52, 53, 54, 55, 56, 57, 58, 59, 60, 61, 62, 63, 64, 65, 66, 67, 68] (by decide +kernel) (by decide +kernel)
set_option maxRecDepth 20000 in
theorem gX9_ask_X9_manyGreatest : GoodIn wsX9_ask (wsV RX9 202 RX9 yX9_manyGreatest wsX9_manyGreatest) := goodIn_app (goodIn_of _ (by decide +kernel)) ggX9_ask_X9_manyGreatest
set_option maxRecDepth 20000 in
theorem ggX9_ask_X9_secondOf : GoodIn wsX9_ask wsX9_secondOf := goodIn_r _ [29, 1, 13, 14, 15, 16, 6, 17, 38, 39, 40, 41, 42, 43, 44, 45, 46, 47, 48, 49, 50, 51, 52, 53, 54, 55, 56, 57, 58, 59, 60, 61, 62, 63, 64, 65, 66, 67, 68] (by decide +kernel) (by decide +kernel)
set_option maxRecDepth 20000 in
theorem gX9_ask_X9_secondOf : GoodIn wsX9_ask (wsV RX9 205 RX9 yX9_secondOf wsX9_secondOf) := goodIn_app (goodIn_of _ (by decide +kernel)) ggX9_ask_X9_secondOf
set_option maxRecDepth 20000 in
theorem ggX9_ask_X9_unlikeIn : GoodIn wsX9_ask wsX9_unlikeIn := goodIn_r _ [33, 13, 38, 39, 40, 41, 42, 43, 44, 45, 46, 47, 48, 49, 50, 51, 52, 53, 54, 55, 56, 57, 58, 59, 60, 61, 62, 63, 64, 65, 66, 67, 68] (by decide +kernel) (by decide +kernel)
set_option maxRecDepth 20000 in
theorem gX9_ask_X9_unlikeIn : GoodIn wsX9_ask (wsV RX9 208 RX9 yX9_unlikeIn wsX9_unlikeIn) := goodIn_app (goodIn_of _ (by decide +kernel)) ggX9_ask_X9_unlikeIn
set_option maxRecDepth 20000 in
theorem ggX9_ask_X9_greatestEver : GoodIn wsX9_ask wsX9_greatestEver := goodIn_r _ [37, 2, 38, 39, 40, 41, 42, 43, 44, 45, 46, 47, 48, 49, 50, 51, 52, 53, 54, 55, 56, 57, 58, 59, 60, 61, 62, 63, 64, 65, 66, 67, 68] (by decide +kernel) (by decide +kernel)
set_option maxRecDepth 20000 in
theorem gX9_ask_X9_greatestEver : GoodIn wsX9_ask (wsV RX9 199 RX9 yX9_greatestEver wsX9_greatestEver) := goodIn_app (goodIn_of _ (by decide +kernel)) ggX9_ask_X9_greatestEver
theorem dX9_ask_0 : decode cX9_ask 0 = .ok (.aload_n 0, 1) := by decide +kernel
theorem dX9_ask_1 : decode cX9_ask 1 = .ok (.iload_n 1, 1) := by decide +kernel
theorem dX9_ask_2 : decode cX9_ask 2 = .ok (.invokevirtual 142, 3) := by decide +kernel
theorem dX9_ask_5 : decode cX9_ask 5 = .ok (.ifCond .eq 16, 3) := by decide +kernel
theorem dX9_ask_8 : decode cX9_ask 8 = .ok (.aload_n 0, 1) := by decide +kernel
theorem dX9_ask_9 : decode cX9_ask 9 = .ok (.iload_n 2, 1) := by decide +kernel
theorem dX9_ask_10 : decode cX9_ask 10 = .ok (.invokevirtual 142, 3) := by decide +kernel
theorem dX9_ask_13 : decode cX9_ask 13 = .ok (.ifCond .eq 8, 3) := by decide +kernel
theorem dX9_ask_16 : decode cX9_ask 16 = .ok (.iload_n 1, 1) := by decide +kernel
theorem dX9_ask_17 : decode cX9_ask 17 = .ok (.iload_n 2, 1) := by decide +kernel
theorem dX9_ask_18 : decode cX9_ask 18 = .ok (.if_icmp .le 7, 3) := by decide +kernel
theorem dX9_ask_21 : decode cX9_ask 21 = .ok (.ldc2_w 75, 3) := by decide +kernel
theorem dX9_ask_24 : decode cX9_ask 24 = .ok (.lreturn, 1) := by decide +kernel
theorem dX9_ask_25 : decode cX9_ask 25 = .ok (.iload_n 3, 1) := by decide +kernel
theorem dX9_ask_26 : decode cX9_ask 26 = .ok (.tableswitch 130 0 7 #[46, 53, 60, 67, 75, 82, 90, 97], 46) := by decide +kernel
theorem dX9_ask_72 : decode cX9_ask 72 = .ok (.aload_n 0, 1) := by decide +kernel
theorem dX9_ask_73 : decode cX9_ask 73 = .ok (.iload_n 1, 1) := by decide +kernel
theorem dX9_ask_74 : decode cX9_ask 74 = .ok (.iload_n 2, 1) := by decide +kernel
theorem dX9_ask_75 : decode cX9_ask 75 = .ok (.invokevirtual 189, 3) := by decide +kernel
theorem dX9_ask_78 : decode cX9_ask 78 = .ok (.lreturn, 1) := by decide +kernel
theorem dX9_ask_79 : decode cX9_ask 79 = .ok (.aload_n 0, 1) := by decide +kernel
theorem dX9_ask_80 : decode cX9_ask 80 = .ok (.iload_n 1, 1) := by decide +kernel
theorem dX9_ask_81 : decode cX9_ask 81 = .ok (.iload_n 2, 1) := by decide +kernel
theorem dX9_ask_82 : decode cX9_ask 82 = .ok (.invokevirtual 193, 3) := by decide +kernel
theorem dX9_ask_85 : decode cX9_ask 85 = .ok (.lreturn, 1) := by decide +kernel
theorem dX9_ask_86 : decode cX9_ask 86 = .ok (.aload_n 0, 1) := by decide +kernel
theorem dX9_ask_87 : decode cX9_ask 87 = .ok (.iload_n 1, 1) := by decide +kernel
theorem dX9_ask_88 : decode cX9_ask 88 = .ok (.iload_n 2, 1) := by decide +kernel
theorem dX9_ask_89 : decode cX9_ask 89 = .ok (.invokevirtual 196, 3) := by decide +kernel
theorem dX9_ask_92 : decode cX9_ask 92 = .ok (.lreturn, 1) := by decide +kernel
theorem dX9_ask_93 : decode cX9_ask 93 = .ok (.aload_n 0, 1) := by decide +kernel
theorem dX9_ask_94 : decode cX9_ask 94 = .ok (.iload_n 1, 1) := by decide +kernel
theorem dX9_ask_95 : decode cX9_ask 95 = .ok (.iload_n 2, 1) := by decide +kernel
theorem dX9_ask_96 : decode cX9_ask 96 = .ok (.invokevirtual 202, 3) := by decide +kernel
theorem dX9_ask_99 : decode cX9_ask 99 = .ok (.i2l, 1) := by decide +kernel
theorem dX9_ask_100 : decode cX9_ask 100 = .ok (.lreturn, 1) := by decide +kernel
theorem dX9_ask_101 : decode cX9_ask 101 = .ok (.aload_n 0, 1) := by decide +kernel
theorem dX9_ask_102 : decode cX9_ask 102 = .ok (.iload_n 1, 1) := by decide +kernel
theorem dX9_ask_103 : decode cX9_ask 103 = .ok (.iload_n 2, 1) := by decide +kernel
theorem dX9_ask_104 : decode cX9_ask 104 = .ok (.invokevirtual 205, 3) := by decide +kernel
theorem dX9_ask_107 : decode cX9_ask 107 = .ok (.lreturn, 1) := by decide +kernel
theorem dX9_ask_108 : decode cX9_ask 108 = .ok (.aload_n 0, 1) := by decide +kernel
theorem dX9_ask_109 : decode cX9_ask 109 = .ok (.iload_n 1, 1) := by decide +kernel
theorem dX9_ask_110 : decode cX9_ask 110 = .ok (.iload_n 2, 1) := by decide +kernel
theorem dX9_ask_111 : decode cX9_ask 111 = .ok (.invokevirtual 208, 3) := by decide +kernel
theorem dX9_ask_114 : decode cX9_ask 114 = .ok (.i2l, 1) := by decide +kernel
theorem dX9_ask_115 : decode cX9_ask 115 = .ok (.lreturn, 1) := by decide +kernel
theorem dX9_ask_116 : decode cX9_ask 116 = .ok (.aload_n 0, 1) := by decide +kernel
theorem dX9_ask_117 : decode cX9_ask 117 = .ok (.iload_n 1, 1) := by decide +kernel
theorem dX9_ask_118 : decode cX9_ask 118 = .ok (.iload_n 2, 1) := by decide +kernel
theorem dX9_ask_119 : decode cX9_ask 119 = .ok (.invokevirtual 199, 3) := by decide +kernel
theorem dX9_ask_122 : decode cX9_ask 122 = .ok (.lreturn, 1) := by decide +kernel
theorem dX9_ask_123 : decode cX9_ask 123 = .ok (.lconst 0, 1) := by decide +kernel
theorem dX9_ask_124 : decode cX9_ask 124 = .ok (.lstore 4, 2) := by decide +kernel
theorem dX9_ask_126 : decode cX9_ask 126 = .ok (.iload_n 1, 1) := by decide +kernel
theorem dX9_ask_127 : decode cX9_ask 127 = .ok (.istore 6, 2) := by decide +kernel
theorem dX9_ask_129 : decode cX9_ask 129 = .ok (.iload 6, 2) := by decide +kernel
theorem dX9_ask_131 : decode cX9_ask 131 = .ok (.iload_n 2, 1) := by decide +kernel
theorem dX9_ask_132 : decode cX9_ask 132 = .ok (.if_icmp .gt 21, 3) := by decide +kernel
theorem dX9_ask_135 : decode cX9_ask 135 = .ok (.lload 4, 2) := by decide +kernel
theorem dX9_ask_137 : decode cX9_ask 137 = .ok (.aload_n 0, 1) := by decide +kernel
theorem dX9_ask_138 : decode cX9_ask 138 = .ok (.getfield 23, 3) := by decide +kernel
theorem dX9_ask_141 : decode cX9_ask 141 = .ok (.iload 6, 2) := by decide +kernel
theorem dX9_ask_143 : decode cX9_ask 143 = .ok (.laload, 1) := by decide +kernel
theorem dX9_ask_144 : decode cX9_ask 144 = .ok (.ladd, 1) := by decide +kernel
theorem dX9_ask_145 : decode cX9_ask 145 = .ok (.lstore 4, 2) := by decide +kernel
theorem dX9_ask_147 : decode cX9_ask 147 = .ok (.iinc 6 1, 3) := by decide +kernel
theorem dX9_ask_150 : decode cX9_ask 150 = .ok (.goto (-21), 3) := by decide +kernel
theorem dX9_ask_153 : decode cX9_ask 153 = .ok (.lload 4, 2) := by decide +kernel
theorem dX9_ask_155 : decode cX9_ask 155 = .ok (.lreturn, 1) := by decide +kernel
theorem dX9_ask_156 : decode cX9_ask 156 = .ok (.ldc2_w 75, 3) := by decide +kernel
theorem dX9_ask_159 : decode cX9_ask 159 = .ok (.lreturn, 1) := by decide +kernel
theorem dX9_findSpan_0 : decode cX9_findSpan 0 = .ok (.iload_n 1, 1) := by decide +kernel
theorem dX9_findSpan_1 : decode cX9_findSpan 1 = .ok (.iconst 1, 1) := by decide +kernel
theorem dX9_findSpan_2 : decode cX9_findSpan 2 = .ok (.if_icmp .lt 10, 3) := by decide +kernel
theorem dX9_findSpan_5 : decode cX9_findSpan 5 = .ok (.aload_n 0, 1) := by decide +kernel
theorem dX9_findSpan_6 : decode cX9_findSpan 6 = .ok (.getfield 81, 3) := by decide +kernel
theorem dX9_findSpan_9 : decode cX9_findSpan 9 = .ok (.ifCond .ne 5, 3) := by decide +kernel
theorem dX9_findSpan_12 : decode cX9_findSpan 12 = .ok (.iconst 0, 1) := by decide +kernel
theorem dX9_findSpan_13 : decode cX9_findSpan 13 = .ok (.ireturn, 1) := by decide +kernel
theorem dX9_findSpan_14 : decode cX9_findSpan 14 = .ok (.iconst 0, 1) := by decide +kernel
theorem dX9_findSpan_15 : decode cX9_findSpan 15 = .ok (.istore_n 2, 1) := by decide +kernel
theorem dX9_findSpan_16 : decode cX9_findSpan 16 = .ok (.iload_n 1, 1) := by decide +kernel
theorem dX9_findSpan_17 : decode cX9_findSpan 17 = .ok (.istore_n 3, 1) := by decide +kernel
theorem dX9_findSpan_18 : decode cX9_findSpan 18 = .ok (.iload_n 3, 1) := by decide +kernel
theorem dX9_findSpan_19 : decode cX9_findSpan 19 = .ok (.iconst 1, 1) := by decide +kernel
theorem dX9_findSpan_20 : decode cX9_findSpan 20 = .ok (.if_icmp .le 13, 3) := by decide +kernel
theorem dX9_findSpan_23 : decode cX9_findSpan 23 = .ok (.iinc 2 1, 3) := by decide +kernel
theorem dX9_findSpan_26 : decode cX9_findSpan 26 = .ok (.iload_n 3, 1) := by decide +kernel
theorem dX9_findSpan_27 : decode cX9_findSpan 27 = .ok (.iconst 1, 1) := by decide +kernel
theorem dX9_findSpan_28 : decode cX9_findSpan 28 = .ok (.ishr, 1) := by decide +kernel
theorem dX9_findSpan_29 : decode cX9_findSpan 29 = .ok (.istore_n 3, 1) := by decide +kernel
theorem dX9_findSpan_30 : decode cX9_findSpan 30 = .ok (.goto (-12), 3) := by decide +kernel
theorem dX9_findSpan_33 : decode cX9_findSpan 33 = .ok (.aload_n 0, 1) := by decide +kernel
theorem dX9_findSpan_34 : decode cX9_findSpan 34 = .ok (.iconst 0, 1) := by decide +kernel
theorem dX9_findSpan_35 : decode cX9_findSpan 35 = .ok (.putfield 211, 3) := by decide +kernel
theorem dX9_findSpan_38 : decode cX9_findSpan 38 = .ok (.aload_n 0, 1) := by decide +kernel
theorem dX9_findSpan_39 : decode cX9_findSpan 39 = .ok (.aload_n 0, 1) := by decide +kernel
theorem dX9_findSpan_40 : decode cX9_findSpan 40 = .ok (.getfield 81, 3) := by decide +kernel
theorem dX9_findSpan_43 : decode cX9_findSpan 43 = .ok (.iconst 1, 1) := by decide +kernel
theorem dX9_findSpan_44 : decode cX9_findSpan 44 = .ok (.isub, 1) := by decide +kernel
theorem dX9_findSpan_45 : decode cX9_findSpan 45 = .ok (.putfield 214, 3) := by decide +kernel
theorem dX9_findSpan_48 : decode cX9_findSpan 48 = .ok (.iload_n 2, 1) := by decide +kernel
theorem dX9_findSpan_49 : decode cX9_findSpan 49 = .ok (.iconst 1, 1) := by decide +kernel
theorem dX9_findSpan_50 : decode cX9_findSpan 50 = .ok (.isub, 1) := by decide +kernel
theorem dX9_findSpan_51 : decode cX9_findSpan 51 = .ok (.istore_n 3, 1) := by decide +kernel
theorem dX9_findSpan_52 : decode cX9_findSpan 52 = .ok (.iload_n 3, 1) := by decide +kernel
theorem dX9_findSpan_53 : decode cX9_findSpan 53 = .ok (.ifCond .lt 60, 3) := by decide +kernel
theorem dX9_findSpan_56 : decode cX9_findSpan 56 = .ok (.aload_n 0, 1) := by decide +kernel
theorem dX9_findSpan_57 : decode cX9_findSpan 57 = .ok (.getfield 211, 3) := by decide +kernel
theorem dX9_findSpan_60 : decode cX9_findSpan 60 = .ok (.aload_n 0, 1) := by decide +kernel
theorem dX9_findSpan_61 : decode cX9_findSpan 61 = .ok (.getfield 214, 3) := by decide +kernel
theorem dX9_findSpan_64 : decode cX9_findSpan 64 = .ok (.if_icmp .ne 5, 3) := by decide +kernel
theorem dX9_findSpan_67 : decode cX9_findSpan 67 = .ok (.iconst 0, 1) := by decide +kernel
theorem dX9_findSpan_68 : decode cX9_findSpan 68 = .ok (.ireturn, 1) := by decide +kernel
theorem dX9_findSpan_69 : decode cX9_findSpan 69 = .ok (.aload_n 0, 1) := by decide +kernel
theorem dX9_findSpan_70 : decode cX9_findSpan 70 = .ok (.getfield 211, 3) := by decide +kernel
theorem dX9_findSpan_73 : decode cX9_findSpan 73 = .ok (.aload_n 0, 1) := by decide +kernel
theorem dX9_findSpan_74 : decode cX9_findSpan 74 = .ok (.getfield 214, 3) := by decide +kernel
theorem dX9_findSpan_77 : decode cX9_findSpan 77 = .ok (.iadd, 1) := by decide +kernel
theorem dX9_findSpan_78 : decode cX9_findSpan 78 = .ok (.iconst 2, 1) := by decide +kernel
theorem dX9_findSpan_79 : decode cX9_findSpan 79 = .ok (.idiv, 1) := by decide +kernel
theorem dX9_findSpan_80 : decode cX9_findSpan 80 = .ok (.istore 4, 2) := by decide +kernel
theorem dX9_findSpan_82 : decode cX9_findSpan 82 = .ok (.iload_n 1, 1) := by decide +kernel
theorem dX9_findSpan_83 : decode cX9_findSpan 83 = .ok (.iload_n 3, 1) := by decide +kernel
theorem dX9_findSpan_84 : decode cX9_findSpan 84 = .ok (.ishr, 1) := by decide +kernel
theorem dX9_findSpan_85 : decode cX9_findSpan 85 = .ok (.iconst 1, 1) := by decide +kernel
theorem dX9_findSpan_86 : decode cX9_findSpan 86 = .ok (.iand, 1) := by decide +kernel
theorem dX9_findSpan_87 : decode cX9_findSpan 87 = .ok (.ifCond .ne 12, 3) := by decide +kernel
theorem dX9_findSpan_90 : decode cX9_findSpan 90 = .ok (.aload_n 0, 1) := by decide +kernel
theorem dX9_findSpan_91 : decode cX9_findSpan 91 = .ok (.iload 4, 2) := by decide +kernel
theorem dX9_findSpan_93 : decode cX9_findSpan 93 = .ok (.putfield 214, 3) := by decide +kernel
theorem dX9_findSpan_96 : decode cX9_findSpan 96 = .ok (.goto 11, 3) := by decide +kernel
theorem dX9_findSpan_99 : decode cX9_findSpan 99 = .ok (.aload_n 0, 1) := by decide +kernel
theorem dX9_findSpan_100 : decode cX9_findSpan 100 = .ok (.iload 4, 2) := by decide +kernel
theorem dX9_findSpan_102 : decode cX9_findSpan 102 = .ok (.iconst 1, 1) := by decide +kernel
theorem dX9_findSpan_103 : decode cX9_findSpan 103 = .ok (.iadd, 1) := by decide +kernel
theorem dX9_findSpan_104 : decode cX9_findSpan 104 = .ok (.putfield 211, 3) := by decide +kernel
theorem dX9_findSpan_107 : decode cX9_findSpan 107 = .ok (.iinc 3 (-1), 3) := by decide +kernel
theorem dX9_findSpan_110 : decode cX9_findSpan 110 = .ok (.goto (-58), 3) := by decide +kernel
theorem dX9_findSpan_113 : decode cX9_findSpan 113 = .ok (.iconst 1, 1) := by decide +kernel
theorem dX9_findSpan_114 : decode cX9_findSpan 114 = .ok (.ireturn, 1) := by decide +kernel
set_option maxRecDepth 20000 in
theorem ggX9_ofSpan_X9_findSpan : GoodIn wsX9_ofSpan wsX9_findSpan := goodIn_r _ [8, 9, 2, 3, 31, 32, 33, 34, 35, 36, 37, 38, 39, 40, 41, 42, 43, 44, 45, 46, 47, 48, 49, 50, 51, 52, 53, 54, 55, 56, 57, 58, 59, 60, 61] (by decide +kernel) (by decide +kernel)
set_option maxRecDepth 20000 in
theorem gX9_ofSpan_X9_findSpan : GoodIn wsX9_ofSpan (wsV RX9 217 RX9 yX9_findSpan wsX9_findSpan) := goodIn_app (goodIn_of _ (by decide +kernel)) ggX9_ofSpan_X9_findSpan
set_option maxRecDepth 20000 in
theorem ggX9_ofSpan_X9_greatestOf : GoodIn wsX9_ofSpan wsX9_greatestOf := goodIn_r _ [13, 14, 31, 32, 33, 34, 35, 36, 37, 38, 39, 40, 41, 42, 43, 44, 45, 46, 47, 48, 49, 50, 51, 52, 53, 54, 55, 56, 57, 58, 59, 60, 61] (by decide +kernel) (by decide +kernel)
set_option maxRecDepth 20000 in
theorem gX9_ofSpan_X9_greatestOf : GoodIn wsX9_ofSpan (wsV RX9 193 RX9 yX9_greatestOf wsX9_greatestOf) := goodIn_app (goodIn_of _ (by decide +kernel)) ggX9_ofSpan_X9_greatestOf
set_option maxRecDepth 20000 in
theorem ggX9_ofSpan_X9_secondOf : GoodIn wsX9_ofSpan wsX9_secondOf := goodIn_r _ [18, 1, 14, 10, 11, 12, 7, 13, 31, 32, 33, 34, 35, 36, 37, 38, 39, 40, 41, 42, 43, 44, 45, 46, 47, 48, 49, 50, 51, 52, 53, 54, 55, 56, 57, 58, 59, 60, 61] (by decide +kernel) (by decide +kernel)
set_option maxRecDepth 20000 in
theorem gX9_ofSpan_X9_secondOf : GoodIn wsX9_ofSpan (wsV RX9 205 RX9 yX9_secondOf wsX9_secondOf) := goodIn_app (goodIn_of _ (by decide +kernel)) ggX9_ofSpan_X9_secondOf
set_option maxRecDepth 20000 in
theorem ggX9_ofSpan_X9_manyGreatest : GoodIn wsX9_ofSpan wsX9_manyGreatest := goodIn_r _ [22, 14, 10, 11, 12, 7, 13, 31, 32, 33, 34, 35, 36, 37, 38, 39, 40, 41, 42, 43, 44, 45, 46, 47, 48, 49, 50, 51, 52, 53, 54, 55, 56, 57, 58, 59, 60, 61] (by decide +kernel) (by decide +kernel)
set_option maxRecDepth 20000 in
theorem gX9_ofSpan_X9_manyGreatest : GoodIn wsX9_ofSpan (wsV RX9 202 RX9 yX9_manyGreatest wsX9_manyGreatest) := goodIn_app (goodIn_of _ (by decide +kernel)) ggX9_ofSpan_X9_manyGreatest
set_option maxRecDepth 20000 in
theorem ggX9_ofSpan_X9_sumOf : GoodIn wsX9_ofSpan wsX9_sumOf := goodIn_r _ [26, 14, 31, 32, 33, 34, 35, 36, 37, 38, 39, 40, 41, 42, 43, 44, 45, 46, 47, 48, 49, 50, 51, 52, 53, 54, 55, 56, 57, 58, 59, 60, 61] (by decide +kernel) (by decide +kernel)
set_option maxRecDepth 20000 in
theorem gX9_ofSpan_X9_sumOf : GoodIn wsX9_ofSpan (wsV RX9 189 RX9 yX9_sumOf wsX9_sumOf) := goodIn_app (goodIn_of _ (by decide +kernel)) ggX9_ofSpan_X9_sumOf
set_option maxRecDepth 20000 in
theorem ggX9_ofSpan_X9_unlikeIn : GoodIn wsX9_ofSpan wsX9_unlikeIn := goodIn_r _ [30, 14, 31, 32, 33, 34, 35, 36, 37, 38, 39, 40, 41, 42, 43, 44, 45, 46, 47, 48, 49, 50, 51, 52, 53, 54, 55, 56, 57, 58, 59, 60, 61] (by decide +kernel) (by decide +kernel)
set_option maxRecDepth 20000 in
theorem gX9_ofSpan_X9_unlikeIn : GoodIn wsX9_ofSpan (wsV RX9 208 RX9 yX9_unlikeIn wsX9_unlikeIn) := goodIn_app (goodIn_of _ (by decide +kernel)) ggX9_ofSpan_X9_unlikeIn
theorem dX9_ofSpan_0 : decode cX9_ofSpan 0 = .ok (.aload_n 0, 1) := by decide +kernel
theorem dX9_ofSpan_1 : decode cX9_ofSpan 1 = .ok (.iload_n 1, 1) := by decide +kernel
theorem dX9_ofSpan_2 : decode cX9_ofSpan 2 = .ok (.invokevirtual 217, 3) := by decide +kernel
theorem dX9_ofSpan_5 : decode cX9_ofSpan 5 = .ok (.ifCond .ne 7, 3) := by decide +kernel
theorem dX9_ofSpan_8 : decode cX9_ofSpan 8 = .ok (.ldc2_w 75, 3) := by decide +kernel
theorem dX9_ofSpan_11 : decode cX9_ofSpan 11 = .ok (.lreturn, 1) := by decide +kernel
theorem dX9_ofSpan_12 : decode cX9_ofSpan 12 = .ok (.iload_n 2, 1) := by decide +kernel
theorem dX9_ofSpan_13 : decode cX9_ofSpan 13 = .ok (.tableswitch 122 0 6 #[43, 49, 55, 68, 81, 95, 108], 43) := by decide +kernel
theorem dX9_ofSpan_56 : decode cX9_ofSpan 56 = .ok (.aload_n 0, 1) := by decide +kernel
theorem dX9_ofSpan_57 : decode cX9_ofSpan 57 = .ok (.getfield 211, 3) := by decide +kernel
theorem dX9_ofSpan_60 : decode cX9_ofSpan 60 = .ok (.i2l, 1) := by decide +kernel
theorem dX9_ofSpan_61 : decode cX9_ofSpan 61 = .ok (.lreturn, 1) := by decide +kernel
theorem dX9_ofSpan_62 : decode cX9_ofSpan 62 = .ok (.aload_n 0, 1) := by decide +kernel
theorem dX9_ofSpan_63 : decode cX9_ofSpan 63 = .ok (.getfield 214, 3) := by decide +kernel
theorem dX9_ofSpan_66 : decode cX9_ofSpan 66 = .ok (.i2l, 1) := by decide +kernel
theorem dX9_ofSpan_67 : decode cX9_ofSpan 67 = .ok (.lreturn, 1) := by decide +kernel
theorem dX9_ofSpan_68 : decode cX9_ofSpan 68 = .ok (.aload_n 0, 1) := by decide +kernel
theorem dX9_ofSpan_69 : decode cX9_ofSpan 69 = .ok (.aload_n 0, 1) := by decide +kernel
theorem dX9_ofSpan_70 : decode cX9_ofSpan 70 = .ok (.getfield 211, 3) := by decide +kernel
theorem dX9_ofSpan_73 : decode cX9_ofSpan 73 = .ok (.aload_n 0, 1) := by decide +kernel
theorem dX9_ofSpan_74 : decode cX9_ofSpan 74 = .ok (.getfield 214, 3) := by decide +kernel
theorem dX9_ofSpan_77 : decode cX9_ofSpan 77 = .ok (.invokevirtual 193, 3) := by decide +kernel
theorem dX9_ofSpan_80 : decode cX9_ofSpan 80 = .ok (.lreturn, 1) := by decide +kernel
theorem dX9_ofSpan_81 : decode cX9_ofSpan 81 = .ok (.aload_n 0, 1) := by decide +kernel
theorem dX9_ofSpan_82 : decode cX9_ofSpan 82 = .ok (.aload_n 0, 1) := by decide +kernel
theorem dX9_ofSpan_83 : decode cX9_ofSpan 83 = .ok (.getfield 211, 3) := by decide +kernel
theorem dX9_ofSpan_86 : decode cX9_ofSpan 86 = .ok (.aload_n 0, 1) := by decide +kernel
theorem dX9_ofSpan_87 : decode cX9_ofSpan 87 = .ok (.getfield 214, 3) := by decide +kernel
theorem dX9_ofSpan_90 : decode cX9_ofSpan 90 = .ok (.invokevirtual 205, 3) := by decide +kernel
theorem dX9_ofSpan_93 : decode cX9_ofSpan 93 = .ok (.lreturn, 1) := by decide +kernel
theorem dX9_ofSpan_94 : decode cX9_ofSpan 94 = .ok (.aload_n 0, 1) := by decide +kernel
theorem dX9_ofSpan_95 : decode cX9_ofSpan 95 = .ok (.aload_n 0, 1) := by decide +kernel
theorem dX9_ofSpan_96 : decode cX9_ofSpan 96 = .ok (.getfield 211, 3) := by decide +kernel
theorem dX9_ofSpan_99 : decode cX9_ofSpan 99 = .ok (.aload_n 0, 1) := by decide +kernel
theorem dX9_ofSpan_100 : decode cX9_ofSpan 100 = .ok (.getfield 214, 3) := by decide +kernel
theorem dX9_ofSpan_103 : decode cX9_ofSpan 103 = .ok (.invokevirtual 202, 3) := by decide +kernel
theorem dX9_ofSpan_106 : decode cX9_ofSpan 106 = .ok (.i2l, 1) := by decide +kernel
theorem dX9_ofSpan_107 : decode cX9_ofSpan 107 = .ok (.lreturn, 1) := by decide +kernel
theorem dX9_ofSpan_108 : decode cX9_ofSpan 108 = .ok (.aload_n 0, 1) := by decide +kernel
theorem dX9_ofSpan_109 : decode cX9_ofSpan 109 = .ok (.aload_n 0, 1) := by decide +kernel
theorem dX9_ofSpan_110 : decode cX9_ofSpan 110 = .ok (.getfield 211, 3) := by decide +kernel
theorem dX9_ofSpan_113 : decode cX9_ofSpan 113 = .ok (.aload_n 0, 1) := by decide +kernel
theorem dX9_ofSpan_114 : decode cX9_ofSpan 114 = .ok (.getfield 214, 3) := by decide +kernel
theorem dX9_ofSpan_117 : decode cX9_ofSpan 117 = .ok (.invokevirtual 189, 3) := by decide +kernel
theorem dX9_ofSpan_120 : decode cX9_ofSpan 120 = .ok (.lreturn, 1) := by decide +kernel
theorem dX9_ofSpan_121 : decode cX9_ofSpan 121 = .ok (.aload_n 0, 1) := by decide +kernel
theorem dX9_ofSpan_122 : decode cX9_ofSpan 122 = .ok (.aload_n 0, 1) := by decide +kernel
theorem dX9_ofSpan_123 : decode cX9_ofSpan 123 = .ok (.getfield 211, 3) := by decide +kernel
theorem dX9_ofSpan_126 : decode cX9_ofSpan 126 = .ok (.aload_n 0, 1) := by decide +kernel
theorem dX9_ofSpan_127 : decode cX9_ofSpan 127 = .ok (.getfield 214, 3) := by decide +kernel
theorem dX9_ofSpan_130 : decode cX9_ofSpan 130 = .ok (.invokevirtual 208, 3) := by decide +kernel
theorem dX9_ofSpan_133 : decode cX9_ofSpan 133 = .ok (.i2l, 1) := by decide +kernel
theorem dX9_ofSpan_134 : decode cX9_ofSpan 134 = .ok (.lreturn, 1) := by decide +kernel
theorem dX9_ofSpan_135 : decode cX9_ofSpan 135 = .ok (.ldc2_w 75, 3) := by decide +kernel
theorem dX9_ofSpan_138 : decode cX9_ofSpan 138 = .ok (.lreturn, 1) := by decide +kernel
set_option maxRecDepth 20000 in
theorem ggX9_opens_X9_greatestOf : GoodIn wsX9_opens wsX9_greatestOf := goodIn_r _ [8, 9, 14, 15, 16, 17, 18, 19, 20, 21, 22, 23, 24, 25, 26, 27, 28, 29, 30, 31, 32, 33, 34, 35, 36, 37, 38, 39, 40, 41, 42, 43, 44] (by decide +kernel) (by decide +kernel)
set_option maxRecDepth 20000 in
theorem gX9_opens_X9_greatestOf : GoodIn wsX9_opens (wsV RX9 193 RX9 yX9_greatestOf wsX9_greatestOf) := goodIn_app (goodIn_of _ (by decide +kernel)) ggX9_opens_X9_greatestOf
set_option maxRecDepth 20000 in
theorem ggX9_opens_X9_secondOf : GoodIn wsX9_opens wsX9_secondOf := goodIn_r _ [13, 3, 9, 4, 5, 6, 7, 8, 14, 15, 16, 17, 18, 19, 20, 21, 22, 23, 24, 25, 26, 27, 28, 29, 30, 31, 32, 33, 34, 35, 36, 37, 38, 39, 40, 41, 42, 43, 44] (by decide +kernel) (by decide +kernel)
set_option maxRecDepth 20000 in
theorem gX9_opens_X9_secondOf : GoodIn wsX9_opens (wsV RX9 205 RX9 yX9_secondOf wsX9_secondOf) := goodIn_app (goodIn_of _ (by decide +kernel)) ggX9_opens_X9_secondOf
theorem dX9_opens_0 : decode cX9_opens 0 = .ok (.aload_n 0, 1) := by decide +kernel
theorem dX9_opens_1 : decode cX9_opens 1 = .ok (.getfield 211, 3) := by decide +kernel
theorem dX9_opens_4 : decode cX9_opens 4 = .ok (.iload_n 2, 1) := by decide +kernel
theorem dX9_opens_5 : decode cX9_opens 5 = .ok (.if_icmp .gt 15, 3) := by decide +kernel
theorem dX9_opens_8 : decode cX9_opens 8 = .ok (.aload_n 0, 1) := by decide +kernel
theorem dX9_opens_9 : decode cX9_opens 9 = .ok (.getfield 214, 3) := by decide +kernel
theorem dX9_opens_12 : decode cX9_opens 12 = .ok (.iload_n 1, 1) := by decide +kernel
theorem dX9_opens_13 : decode cX9_opens 13 = .ok (.if_icmp .lt 7, 3) := by decide +kernel
theorem dX9_opens_16 : decode cX9_opens 16 = .ok (.iconst 1, 1) := by decide +kernel
theorem dX9_opens_17 : decode cX9_opens 17 = .ok (.goto 4, 3) := by decide +kernel
theorem dX9_opens_20 : decode cX9_opens 20 = .ok (.iconst 0, 1) := by decide +kernel
theorem dX9_opens_21 : decode cX9_opens 21 = .ok (.istore 5, 2) := by decide +kernel
theorem dX9_opens_23 : decode cX9_opens 23 = .ok (.aload_n 0, 1) := by decide +kernel
theorem dX9_opens_24 : decode cX9_opens 24 = .ok (.getfield 211, 3) := by decide +kernel
theorem dX9_opens_27 : decode cX9_opens 27 = .ok (.iload_n 1, 1) := by decide +kernel
theorem dX9_opens_28 : decode cX9_opens 28 = .ok (.if_icmp .lt 15, 3) := by decide +kernel
theorem dX9_opens_31 : decode cX9_opens 31 = .ok (.aload_n 0, 1) := by decide +kernel
theorem dX9_opens_32 : decode cX9_opens 32 = .ok (.getfield 214, 3) := by decide +kernel
theorem dX9_opens_35 : decode cX9_opens 35 = .ok (.iload_n 2, 1) := by decide +kernel
theorem dX9_opens_36 : decode cX9_opens 36 = .ok (.if_icmp .gt 7, 3) := by decide +kernel
theorem dX9_opens_39 : decode cX9_opens 39 = .ok (.iconst 1, 1) := by decide +kernel
theorem dX9_opens_40 : decode cX9_opens 40 = .ok (.goto 4, 3) := by decide +kernel
theorem dX9_opens_43 : decode cX9_opens 43 = .ok (.iconst 0, 1) := by decide +kernel
theorem dX9_opens_44 : decode cX9_opens 44 = .ok (.istore 6, 2) := by decide +kernel
theorem dX9_opens_46 : decode cX9_opens 46 = .ok (.iload 5, 2) := by decide +kernel
theorem dX9_opens_48 : decode cX9_opens 48 = .ok (.ifCond .eq 20, 3) := by decide +kernel
theorem dX9_opens_51 : decode cX9_opens 51 = .ok (.aload_n 0, 1) := by decide +kernel
theorem dX9_opens_52 : decode cX9_opens 52 = .ok (.aload_n 0, 1) := by decide +kernel
theorem dX9_opens_53 : decode cX9_opens 53 = .ok (.getfield 211, 3) := by decide +kernel
theorem dX9_opens_56 : decode cX9_opens 56 = .ok (.aload_n 0, 1) := by decide +kernel
theorem dX9_opens_57 : decode cX9_opens 57 = .ok (.getfield 214, 3) := by decide +kernel
theorem dX9_opens_60 : decode cX9_opens 60 = .ok (.invokevirtual 193, 3) := by decide +kernel
theorem dX9_opens_63 : decode cX9_opens 63 = .ok (.lload_n 3, 1) := by decide +kernel
theorem dX9_opens_64 : decode cX9_opens 64 = .ok (.lcmp, 1) := by decide +kernel
theorem dX9_opens_65 : decode cX9_opens 65 = .ok (.ifCond .gt 5, 3) := by decide +kernel
theorem dX9_opens_68 : decode cX9_opens 68 = .ok (.iconst 0, 1) := by decide +kernel
theorem dX9_opens_69 : decode cX9_opens 69 = .ok (.ireturn, 1) := by decide +kernel
theorem dX9_opens_70 : decode cX9_opens 70 = .ok (.aload_n 0, 1) := by decide +kernel
theorem dX9_opens_71 : decode cX9_opens 71 = .ok (.aload_n 0, 1) := by decide +kernel
theorem dX9_opens_72 : decode cX9_opens 72 = .ok (.getfield 211, 3) := by decide +kernel
theorem dX9_opens_75 : decode cX9_opens 75 = .ok (.aload_n 0, 1) := by decide +kernel
theorem dX9_opens_76 : decode cX9_opens 76 = .ok (.getfield 214, 3) := by decide +kernel
theorem dX9_opens_79 : decode cX9_opens 79 = .ok (.invokevirtual 205, 3) := by decide +kernel
theorem dX9_opens_82 : decode cX9_opens 82 = .ok (.lstore 7, 2) := by decide +kernel
theorem dX9_opens_84 : decode cX9_opens 84 = .ok (.iload 6, 2) := by decide +kernel
theorem dX9_opens_86 : decode cX9_opens 86 = .ok (.ifCond .eq 19, 3) := by decide +kernel
theorem dX9_opens_89 : decode cX9_opens 89 = .ok (.lload 7, 2) := by decide +kernel
theorem dX9_opens_91 : decode cX9_opens 91 = .ok (.ldc2_w 75, 3) := by decide +kernel
theorem dX9_opens_94 : decode cX9_opens 94 = .ok (.lcmp, 1) := by decide +kernel
theorem dX9_opens_95 : decode cX9_opens 95 = .ok (.ifCond .eq 14, 3) := by decide +kernel
theorem dX9_opens_98 : decode cX9_opens 98 = .ok (.lload 7, 2) := by decide +kernel
theorem dX9_opens_100 : decode cX9_opens 100 = .ok (.lload_n 3, 1) := by decide +kernel
theorem dX9_opens_101 : decode cX9_opens 101 = .ok (.lcmp, 1) := by decide +kernel
theorem dX9_opens_102 : decode cX9_opens 102 = .ok (.ifCond .lt 7, 3) := by decide +kernel
theorem dX9_opens_105 : decode cX9_opens 105 = .ok (.iconst 1, 1) := by decide +kernel
theorem dX9_opens_106 : decode cX9_opens 106 = .ok (.goto 4, 3) := by decide +kernel
theorem dX9_opens_109 : decode cX9_opens 109 = .ok (.iconst 0, 1) := by decide +kernel
theorem dX9_opens_110 : decode cX9_opens 110 = .ok (.ireturn, 1) := by decide +kernel
set_option maxRecDepth 20000 in
theorem ggX9_looks_X9_isCell : GoodIn wsX9_looks wsX9_isCell := goodIn_r _ [8, 9, 33, 34, 35, 36, 37, 38, 39, 40, 41, 42, 43, 44, 45, 46, 47, 48, 49, 50, 51, 52, 53, 54, 55, 56, 57, 58, 59, 60, 61, 62, 63] (by decide +kernel) (by decide +kernel)
set_option maxRecDepth 20000 in
theorem gX9_looks_X9_isCell : GoodIn wsX9_looks (wsV RX9 142 RX9 yX9_isCell wsX9_isCell) := goodIn_app (goodIn_of _ (by decide +kernel)) ggX9_looks_X9_isCell
set_option maxRecDepth 20000 in
theorem ggX9_looks_X9_isBetween : GoodIn wsX9_looks wsX9_isBetween := goodIn_r _ [12] (by decide +kernel) (by decide +kernel)
set_option maxRecDepth 20000 in
theorem gX9_looks_X9_isBetween : GoodIn wsX9_looks (va_wsS RX9 153 yX9_isBetween wsX9_isBetween) := goodIn_app (goodIn_of _ (by decide +kernel)) ggX9_looks_X9_isBetween
set_option maxRecDepth 20000 in
theorem ggX9_looks_X9_findSpan : GoodIn wsX9_looks wsX9_findSpan := goodIn_r _ [16, 9, 17, 18, 33, 34, 35, 36, 37, 38, 39, 40, 41, 42, 43, 44, 45, 46, 47, 48, 49, 50, 51, 52, 53, 54, 55, 56, 57, 58, 59, 60, 61, 62, 63] (by decide +kernel) (by decide +kernel)
set_option maxRecDepth 20000 in
theorem gX9_looks_X9_findSpan : GoodIn wsX9_looks (wsV RX9 217 RX9 yX9_findSpan wsX9_findSpan) := goodIn_app (goodIn_of _ (by decide +kernel)) ggX9_looks_X9_findSpan
set_option maxRecDepth 20000 in
theorem ggX9_looks_X9_opens : GoodIn wsX9_looks wsX9_opens := goodIn_r _ [22, 17, 18, 23, 24, 25, 26, 7, 27, 28, 29, 30, 31, 32, 33, 34, 35, 36, 37, 38, 39, 40, 41, 42, 43, 44, 45, 46, 47, 48, 49, 50, 51, 52, 53, 54, 55, 56, 57, 58, 59, 60, 61, 62, 63] (by decide +kernel) (by decide +kernel)
set_option maxRecDepth 20000 in
theorem gX9_looks_X9_opens : GoodIn wsX9_looks (wsV RX9 220 RX9 yX9_opens wsX9_opens) := goodIn_app (goodIn_of _ (by decide +kernel)) ggX9_looks_X9_opens
theorem dX9_looks_0 : decode cX9_looks 0 = .ok (.aload_n 0, 1) := by decide +kernel
theorem dX9_looks_1 : decode cX9_looks 1 = .ok (.iload_n 1, 1) := by decide +kernel
theorem dX9_looks_2 : decode cX9_looks 2 = .ok (.invokevirtual 142, 3) := by decide +kernel
theorem dX9_looks_5 : decode cX9_looks 5 = .ok (.ifCond .eq 11, 3) := by decide +kernel
theorem dX9_looks_8 : decode cX9_looks 8 = .ok (.aload_n 0, 1) := by decide +kernel
theorem dX9_looks_9 : decode cX9_looks 9 = .ok (.iload_n 2, 1) := by decide +kernel
theorem dX9_looks_10 : decode cX9_looks 10 = .ok (.invokevirtual 142, 3) := by decide +kernel
theorem dX9_looks_13 : decode cX9_looks 13 = .ok (.ifCond .ne 5, 3) := by decide +kernel
theorem dX9_looks_16 : decode cX9_looks 16 = .ok (.iconst (-1), 1) := by decide +kernel
theorem dX9_looks_17 : decode cX9_looks 17 = .ok (.ireturn, 1) := by decide +kernel
theorem dX9_looks_18 : decode cX9_looks 18 = .ok (.iload_n 1, 1) := by decide +kernel
theorem dX9_looks_19 : decode cX9_looks 19 = .ok (.iload_n 2, 1) := by decide +kernel
theorem dX9_looks_20 : decode cX9_looks 20 = .ok (.if_icmp .gt 16, 3) := by decide +kernel
theorem dX9_looks_23 : decode cX9_looks 23 = .ok (.lload_n 3, 1) := by decide +kernel
theorem dX9_looks_24 : decode cX9_looks 24 = .ok (.ldc2_w 149, 3) := by decide +kernel
theorem dX9_looks_27 : decode cX9_looks 27 = .ok (.ldc2_w 151, 3) := by decide +kernel
theorem dX9_looks_30 : decode cX9_looks 30 = .ok (.invokestatic 153, 3) := by decide +kernel
theorem dX9_looks_33 : decode cX9_looks 33 = .ok (.ifCond .ne 6, 3) := by decide +kernel
theorem dX9_looks_36 : decode cX9_looks 36 = .ok (.bipush (-2), 2) := by decide +kernel
theorem dX9_looks_38 : decode cX9_looks 38 = .ok (.ireturn, 1) := by decide +kernel
theorem dX9_looks_39 : decode cX9_looks 39 = .ok (.aload_n 0, 1) := by decide +kernel
theorem dX9_looks_40 : decode cX9_looks 40 = .ok (.getfield 62, 3) := by decide +kernel
theorem dX9_looks_43 : decode cX9_looks 43 = .ok (.iconst 0, 1) := by decide +kernel
theorem dX9_looks_44 : decode cX9_looks 44 = .ok (.iconst 1, 1) := by decide +kernel
theorem dX9_looks_45 : decode cX9_looks 45 = .ok (.iastore, 1) := by decide +kernel
theorem dX9_looks_46 : decode cX9_looks 46 = .ok (.iconst 1, 1) := by decide +kernel
theorem dX9_looks_47 : decode cX9_looks 47 = .ok (.istore 5, 2) := by decide +kernel
theorem dX9_looks_49 : decode cX9_looks 49 = .ok (.iconst 0, 1) := by decide +kernel
theorem dX9_looks_50 : decode cX9_looks 50 = .ok (.istore 6, 2) := by decide +kernel
theorem dX9_looks_52 : decode cX9_looks 52 = .ok (.iload 6, 2) := by decide +kernel
theorem dX9_looks_54 : decode cX9_looks 54 = .ok (.iload 5, 2) := by decide +kernel
theorem dX9_looks_56 : decode cX9_looks 56 = .ok (.if_icmp .ge 70, 3) := by decide +kernel
theorem dX9_looks_59 : decode cX9_looks 59 = .ok (.aload_n 0, 1) := by decide +kernel
theorem dX9_looks_60 : decode cX9_looks 60 = .ok (.aload_n 0, 1) := by decide +kernel
theorem dX9_looks_61 : decode cX9_looks 61 = .ok (.getfield 62, 3) := by decide +kernel
theorem dX9_looks_64 : decode cX9_looks 64 = .ok (.iload 6, 2) := by decide +kernel
theorem dX9_looks_66 : decode cX9_looks 66 = .ok (.iaload, 1) := by decide +kernel
theorem dX9_looks_67 : decode cX9_looks 67 = .ok (.invokevirtual 217, 3) := by decide +kernel
theorem dX9_looks_70 : decode cX9_looks 70 = .ok (.pop, 1) := by decide +kernel
theorem dX9_looks_71 : decode cX9_looks 71 = .ok (.aload_n 0, 1) := by decide +kernel
theorem dX9_looks_72 : decode cX9_looks 72 = .ok (.iload_n 1, 1) := by decide +kernel
theorem dX9_looks_73 : decode cX9_looks 73 = .ok (.iload_n 2, 1) := by decide +kernel
theorem dX9_looks_74 : decode cX9_looks 74 = .ok (.lload_n 3, 1) := by decide +kernel
theorem dX9_looks_75 : decode cX9_looks 75 = .ok (.invokevirtual 220, 3) := by decide +kernel
theorem dX9_looks_78 : decode cX9_looks 78 = .ok (.ifCond .eq 42, 3) := by decide +kernel
theorem dX9_looks_81 : decode cX9_looks 81 = .ok (.aload_n 0, 1) := by decide +kernel
theorem dX9_looks_82 : decode cX9_looks 82 = .ok (.getfield 62, 3) := by decide +kernel
theorem dX9_looks_85 : decode cX9_looks 85 = .ok (.iload 5, 2) := by decide +kernel
theorem dX9_looks_87 : decode cX9_looks 87 = .ok (.iconst 2, 1) := by decide +kernel
theorem dX9_looks_88 : decode cX9_looks 88 = .ok (.aload_n 0, 1) := by decide +kernel
theorem dX9_looks_89 : decode cX9_looks 89 = .ok (.getfield 62, 3) := by decide +kernel
theorem dX9_looks_92 : decode cX9_looks 92 = .ok (.iload 6, 2) := by decide +kernel
theorem dX9_looks_94 : decode cX9_looks 94 = .ok (.iaload, 1) := by decide +kernel
theorem dX9_looks_95 : decode cX9_looks 95 = .ok (.imul, 1) := by decide +kernel
theorem dX9_looks_96 : decode cX9_looks 96 = .ok (.iastore, 1) := by decide +kernel
theorem dX9_looks_97 : decode cX9_looks 97 = .ok (.aload_n 0, 1) := by decide +kernel
theorem dX9_looks_98 : decode cX9_looks 98 = .ok (.getfield 62, 3) := by decide +kernel
theorem dX9_looks_101 : decode cX9_looks 101 = .ok (.iload 5, 2) := by decide +kernel
theorem dX9_looks_103 : decode cX9_looks 103 = .ok (.iconst 1, 1) := by decide +kernel
theorem dX9_looks_104 : decode cX9_looks 104 = .ok (.iadd, 1) := by decide +kernel
theorem dX9_looks_105 : decode cX9_looks 105 = .ok (.iconst 2, 1) := by decide +kernel
theorem dX9_looks_106 : decode cX9_looks 106 = .ok (.aload_n 0, 1) := by decide +kernel
theorem dX9_looks_107 : decode cX9_looks 107 = .ok (.getfield 62, 3) := by decide +kernel
theorem dX9_looks_110 : decode cX9_looks 110 = .ok (.iload 6, 2) := by decide +kernel
theorem dX9_looks_112 : decode cX9_looks 112 = .ok (.iaload, 1) := by decide +kernel
theorem dX9_looks_113 : decode cX9_looks 113 = .ok (.imul, 1) := by decide +kernel
theorem dX9_looks_114 : decode cX9_looks 114 = .ok (.iconst 1, 1) := by decide +kernel
theorem dX9_looks_115 : decode cX9_looks 115 = .ok (.iadd, 1) := by decide +kernel
theorem dX9_looks_116 : decode cX9_looks 116 = .ok (.iastore, 1) := by decide +kernel
theorem dX9_looks_117 : decode cX9_looks 117 = .ok (.iinc 5 2, 3) := by decide +kernel
theorem dX9_looks_120 : decode cX9_looks 120 = .ok (.iinc 6 1, 3) := by decide +kernel
theorem dX9_looks_123 : decode cX9_looks 123 = .ok (.goto (-71), 3) := by decide +kernel
theorem dX9_looks_126 : decode cX9_looks 126 = .ok (.iload 5, 2) := by decide +kernel
theorem dX9_looks_128 : decode cX9_looks 128 = .ok (.ireturn, 1) := by decide +kernel
set_option maxRecDepth 20000 in
theorem ggX9_unlike_X9_findSpan : GoodIn wsX9_unlike wsX9_findSpan := goodIn_r _ [8, 1, 2, 3, 14, 15, 16, 17, 18, 19, 20, 21, 22, 23, 24, 25, 26, 27, 28, 29, 30, 31, 32, 33, 34, 35, 36, 37, 38, 39, 40, 41, 42, 43, 44] (by decide +kernel) (by decide +kernel)
set_option maxRecDepth 20000 in
theorem gX9_unlike_X9_findSpan : GoodIn wsX9_unlike (wsV RX9 217 RX9 yX9_findSpan wsX9_findSpan) := goodIn_app (goodIn_of _ (by decide +kernel)) ggX9_unlike_X9_findSpan
set_option maxRecDepth 20000 in
theorem ggX9_unlike_X9_unlikeIn : GoodIn wsX9_unlike wsX9_unlikeIn := goodIn_r _ [12, 13, 14, 15, 16, 17, 18, 19, 20, 21, 22, 23, 24, 25, 26, 27, 28, 29, 30, 31, 32, 33, 34, 35, 36, 37, 38, 39, 40, 41, 42, 43, 44] (by decide +kernel) (by decide +kernel)
set_option maxRecDepth 20000 in
theorem gX9_unlike_X9_unlikeIn : GoodIn wsX9_unlike (wsV RX9 208 RX9 yX9_unlikeIn wsX9_unlikeIn) := goodIn_app (goodIn_of _ (by decide +kernel)) ggX9_unlike_X9_unlikeIn
theorem dX9_unlike_0 : decode cX9_unlike 0 = .ok (.aload_n 0, 1) := by decide +kernel
theorem dX9_unlike_1 : decode cX9_unlike 1 = .ok (.getfield 81, 3) := by decide +kernel
theorem dX9_unlike_4 : decode cX9_unlike 4 = .ok (.ifCond .ne 6, 3) := by decide +kernel
theorem dX9_unlike_7 : decode cX9_unlike 7 = .ok (.bipush (-3), 2) := by decide +kernel
theorem dX9_unlike_9 : decode cX9_unlike 9 = .ok (.ireturn, 1) := by decide +kernel
theorem dX9_unlike_10 : decode cX9_unlike 10 = .ok (.iconst 0, 1) := by decide +kernel
theorem dX9_unlike_11 : decode cX9_unlike 11 = .ok (.istore_n 1, 1) := by decide +kernel
theorem dX9_unlike_12 : decode cX9_unlike 12 = .ok (.iconst 1, 1) := by decide +kernel
theorem dX9_unlike_13 : decode cX9_unlike 13 = .ok (.istore_n 2, 1) := by decide +kernel
theorem dX9_unlike_14 : decode cX9_unlike 14 = .ok (.iload_n 2, 1) := by decide +kernel
theorem dX9_unlike_15 : decode cX9_unlike 15 = .ok (.bipush 64, 2) := by decide +kernel
theorem dX9_unlike_17 : decode cX9_unlike 17 = .ok (.if_icmp .ge 36, 3) := by decide +kernel
theorem dX9_unlike_20 : decode cX9_unlike 20 = .ok (.iload_n 1, 1) := by decide +kernel
theorem dX9_unlike_21 : decode cX9_unlike 21 = .ok (.aload_n 0, 1) := by decide +kernel
theorem dX9_unlike_22 : decode cX9_unlike 22 = .ok (.iload_n 2, 1) := by decide +kernel
theorem dX9_unlike_23 : decode cX9_unlike 23 = .ok (.invokevirtual 217, 3) := by decide +kernel
theorem dX9_unlike_26 : decode cX9_unlike 26 = .ok (.ifCond .eq 18, 3) := by decide +kernel
theorem dX9_unlike_29 : decode cX9_unlike 29 = .ok (.aload_n 0, 1) := by decide +kernel
theorem dX9_unlike_30 : decode cX9_unlike 30 = .ok (.aload_n 0, 1) := by decide +kernel
theorem dX9_unlike_31 : decode cX9_unlike 31 = .ok (.getfield 211, 3) := by decide +kernel
theorem dX9_unlike_34 : decode cX9_unlike 34 = .ok (.aload_n 0, 1) := by decide +kernel
theorem dX9_unlike_35 : decode cX9_unlike 35 = .ok (.getfield 214, 3) := by decide +kernel
theorem dX9_unlike_38 : decode cX9_unlike 38 = .ok (.invokevirtual 208, 3) := by decide +kernel
theorem dX9_unlike_41 : decode cX9_unlike 41 = .ok (.goto 4, 3) := by decide +kernel
theorem dX9_unlike_44 : decode cX9_unlike 44 = .ok (.iconst 0, 1) := by decide +kernel
theorem dX9_unlike_45 : decode cX9_unlike 45 = .ok (.iadd, 1) := by decide +kernel
theorem dX9_unlike_46 : decode cX9_unlike 46 = .ok (.istore_n 1, 1) := by decide +kernel
theorem dX9_unlike_47 : decode cX9_unlike 47 = .ok (.iinc 2 1, 3) := by decide +kernel
theorem dX9_unlike_50 : decode cX9_unlike 50 = .ok (.goto (-36), 3) := by decide +kernel
theorem dX9_unlike_53 : decode cX9_unlike 53 = .ok (.iload_n 1, 1) := by decide +kernel
theorem dX9_unlike_54 : decode cX9_unlike 54 = .ok (.ireturn, 1) := by decide +kernel
set_option maxRecDepth 20000 in
theorem ggX9_reading_X9_isCell : GoodIn wsX9_reading wsX9_isCell := goodIn_r _ [10, 11, 15, 16, 17, 18, 19, 20, 21, 22, 23, 24, 25, 26, 27, 28, 29, 30, 31, 32, 33, 34, 35, 36, 37, 38, 39, 40, 41, 42, 43, 44, 45] (by decide +kernel) (by decide +kernel)
set_option maxRecDepth 20000 in
theorem gX9_reading_X9_isCell : GoodIn wsX9_reading (wsV RX9 142 RX9 yX9_isCell wsX9_isCell) := goodIn_app (goodIn_of _ (by decide +kernel)) ggX9_reading_X9_isCell
set_option maxRecDepth 20000 in
theorem ggX9_reading_X9_isBetween : GoodIn wsX9_reading wsX9_isBetween := goodIn_r _ [14] (by decide +kernel) (by decide +kernel)
set_option maxRecDepth 20000 in
theorem gX9_reading_X9_isBetween : GoodIn wsX9_reading (va_wsS RX9 153 yX9_isBetween wsX9_isBetween) := goodIn_app (goodIn_of _ (by decide +kernel)) ggX9_reading_X9_isBetween
theorem dX9_reading_0 : decode cX9_reading 0 = .ok (.aload_n 0, 1) := by decide +kernel
theorem dX9_reading_1 : decode cX9_reading 1 = .ok (.iload_n 1, 1) := by decide +kernel
theorem dX9_reading_2 : decode cX9_reading 2 = .ok (.invokevirtual 142, 3) := by decide +kernel
theorem dX9_reading_5 : decode cX9_reading 5 = .ok (.ifCond .ne 5, 3) := by decide +kernel
theorem dX9_reading_8 : decode cX9_reading 8 = .ok (.iconst (-1), 1) := by decide +kernel
theorem dX9_reading_9 : decode cX9_reading 9 = .ok (.ireturn, 1) := by decide +kernel
theorem dX9_reading_10 : decode cX9_reading 10 = .ok (.lload_n 2, 1) := by decide +kernel
theorem dX9_reading_11 : decode cX9_reading 11 = .ok (.ldc2_w 224, 3) := by decide +kernel
theorem dX9_reading_14 : decode cX9_reading 14 = .ok (.ldc2_w 226, 3) := by decide +kernel
theorem dX9_reading_17 : decode cX9_reading 17 = .ok (.invokestatic 153, 3) := by decide +kernel
theorem dX9_reading_20 : decode cX9_reading 20 = .ok (.ifCond .ne 6, 3) := by decide +kernel
theorem dX9_reading_23 : decode cX9_reading 23 = .ok (.bipush (-2), 2) := by decide +kernel
theorem dX9_reading_25 : decode cX9_reading 25 = .ok (.ireturn, 1) := by decide +kernel
theorem dX9_reading_26 : decode cX9_reading 26 = .ok (.aload_n 0, 1) := by decide +kernel
theorem dX9_reading_27 : decode cX9_reading 27 = .ok (.getfield 117, 3) := by decide +kernel
theorem dX9_reading_30 : decode cX9_reading 30 = .ok (.bipush 8, 2) := by decide +kernel
theorem dX9_reading_32 : decode cX9_reading 32 = .ok (.if_icmp .ne 6, 3) := by decide +kernel
theorem dX9_reading_35 : decode cX9_reading 35 = .ok (.bipush (-4), 2) := by decide +kernel
theorem dX9_reading_37 : decode cX9_reading 37 = .ok (.ireturn, 1) := by decide +kernel
theorem dX9_reading_38 : decode cX9_reading 38 = .ok (.aload_n 0, 1) := by decide +kernel
theorem dX9_reading_39 : decode cX9_reading 39 = .ok (.getfield 65, 3) := by decide +kernel
theorem dX9_reading_42 : decode cX9_reading 42 = .ok (.aload_n 0, 1) := by decide +kernel
theorem dX9_reading_43 : decode cX9_reading 43 = .ok (.getfield 117, 3) := by decide +kernel
theorem dX9_reading_46 : decode cX9_reading 46 = .ok (.iload_n 1, 1) := by decide +kernel
theorem dX9_reading_47 : decode cX9_reading 47 = .ok (.iastore, 1) := by decide +kernel
theorem dX9_reading_48 : decode cX9_reading 48 = .ok (.aload_n 0, 1) := by decide +kernel
theorem dX9_reading_49 : decode cX9_reading 49 = .ok (.getfield 68, 3) := by decide +kernel
theorem dX9_reading_52 : decode cX9_reading 52 = .ok (.aload_n 0, 1) := by decide +kernel
theorem dX9_reading_53 : decode cX9_reading 53 = .ok (.getfield 117, 3) := by decide +kernel
theorem dX9_reading_56 : decode cX9_reading 56 = .ok (.lload_n 2, 1) := by decide +kernel
theorem dX9_reading_57 : decode cX9_reading 57 = .ok (.lastore, 1) := by decide +kernel
theorem dX9_reading_58 : decode cX9_reading 58 = .ok (.aload_n 0, 1) := by decide +kernel
theorem dX9_reading_59 : decode cX9_reading 59 = .ok (.dup, 1) := by decide +kernel
theorem dX9_reading_60 : decode cX9_reading 60 = .ok (.getfield 117, 3) := by decide +kernel
theorem dX9_reading_63 : decode cX9_reading 63 = .ok (.iconst 1, 1) := by decide +kernel
theorem dX9_reading_64 : decode cX9_reading 64 = .ok (.iadd, 1) := by decide +kernel
theorem dX9_reading_65 : decode cX9_reading 65 = .ok (.putfield 117, 3) := by decide +kernel
theorem dX9_reading_68 : decode cX9_reading 68 = .ok (.aload_n 0, 1) := by decide +kernel
theorem dX9_reading_69 : decode cX9_reading 69 = .ok (.getfield 117, 3) := by decide +kernel
theorem dX9_reading_72 : decode cX9_reading 72 = .ok (.iconst 1, 1) := by decide +kernel
theorem dX9_reading_73 : decode cX9_reading 73 = .ok (.isub, 1) := by decide +kernel
theorem dX9_reading_74 : decode cX9_reading 74 = .ok (.ireturn, 1) := by decide +kernel
set_option maxRecDepth 20000 in
theorem ggX9_back_X9_within : GoodIn wsX9_back wsX9_within := goodIn_r _ [5] (by decide +kernel) (by decide +kernel)
set_option maxRecDepth 20000 in
theorem gX9_back_X9_within : GoodIn wsX9_back (va_wsS RX9 77 yX9_within wsX9_within) := goodIn_app (goodIn_of _ (by decide +kernel)) ggX9_back_X9_within
theorem dX9_back_0 : decode cX9_back 0 = .ok (.iload_n 1, 1) := by decide +kernel
theorem dX9_back_1 : decode cX9_back 1 = .ok (.iconst 0, 1) := by decide +kernel
theorem dX9_back_2 : decode cX9_back 2 = .ok (.aload_n 0, 1) := by decide +kernel
theorem dX9_back_3 : decode cX9_back 3 = .ok (.getfield 117, 3) := by decide +kernel
theorem dX9_back_6 : decode cX9_back 6 = .ok (.invokestatic 77, 3) := by decide +kernel
theorem dX9_back_9 : decode cX9_back 9 = .ok (.ifCond .ne 6, 3) := by decide +kernel
theorem dX9_back_12 : decode cX9_back 12 = .ok (.bipush (-2), 2) := by decide +kernel
theorem dX9_back_14 : decode cX9_back 14 = .ok (.ireturn, 1) := by decide +kernel
theorem dX9_back_15 : decode cX9_back 15 = .ok (.aload_n 0, 1) := by decide +kernel
theorem dX9_back_16 : decode cX9_back 16 = .ok (.dup, 1) := by decide +kernel
theorem dX9_back_17 : decode cX9_back 17 = .ok (.getfield 117, 3) := by decide +kernel
theorem dX9_back_20 : decode cX9_back 20 = .ok (.iload_n 1, 1) := by decide +kernel
theorem dX9_back_21 : decode cX9_back 21 = .ok (.isub, 1) := by decide +kernel
theorem dX9_back_22 : decode cX9_back 22 = .ok (.putfield 117, 3) := by decide +kernel
theorem dX9_back_25 : decode cX9_back 25 = .ok (.aload_n 0, 1) := by decide +kernel
theorem dX9_back_26 : decode cX9_back 26 = .ok (.getfield 117, 3) := by decide +kernel
theorem dX9_back_29 : decode cX9_back 29 = .ok (.ireturn, 1) := by decide +kernel
set_option maxRecDepth 20000 in
theorem ggX9_areSo_X9_keep : GoodIn wsX9_areSo wsX9_keep := goodIn_r _ [16, 1, 17, 2, 18, 19, 38, 39, 40, 41, 42, 43, 44, 45, 46, 47, 48, 49, 50, 51, 52, 53, 54, 55, 56, 57, 58, 59, 60, 61, 62, 63, 64, 65, 66, 67, 68] (by decide +kernel) (by decide +kernel)
set_option maxRecDepth 20000 in
theorem gX9_areSo_X9_keep : GoodIn wsX9_areSo (wsV RX9 176 RX9 yX9_keep wsX9_keep) := goodIn_app (goodIn_of _ (by decide +kernel)) ggX9_areSo_X9_keep
set_option maxRecDepth 20000 in
theorem ggX9_areSo_X9_does : GoodIn wsX9_areSo wsX9_does := goodIn_r _ [23, 2, 19, 24, 25, 26, 15, 27, 28, 29, 30, 31, 32, 33, 38, 39, 40, 41, 42, 43, 44, 45, 46, 47, 48, 49, 50, 51, 52, 53, 54, 55, 56, 57, 58, 59, 60, 61, 62, 63, 64, 65, 66, 67, 68] (by decide +kernel) (by decide +kernel)
set_option maxRecDepth 20000 in
theorem gX9_areSo_X9_does : GoodIn wsX9_areSo (wsV RX9 161 RX9 yX9_does wsX9_does) := goodIn_app (goodIn_of _ (by decide +kernel)) ggX9_areSo_X9_does
set_option maxRecDepth 20000 in
theorem ggX9_areSo_X9_putBack : GoodIn wsX9_areSo wsX9_putBack := goodIn_r _ [37, 1, 2, 17, 19, 18, 38, 39, 40, 41, 42, 43, 44, 45, 46, 47, 48, 49, 50, 51, 52, 53, 54, 55, 56, 57, 58, 59, 60, 61, 62, 63, 64, 65, 66, 67, 68] (by decide +kernel) (by decide +kernel)
set_option maxRecDepth 20000 in
theorem gX9_areSo_X9_putBack : GoodIn wsX9_areSo (wsV RX9 186 RX9 yX9_putBack wsX9_putBack) := goodIn_app (goodIn_of _ (by decide +kernel)) ggX9_areSo_X9_putBack
theorem dX9_areSo_0 : decode cX9_areSo 0 = .ok (.aload_n 0, 1) := by decide +kernel
theorem dX9_areSo_1 : decode cX9_areSo 1 = .ok (.invokevirtual 176, 3) := by decide +kernel
theorem dX9_areSo_4 : decode cX9_areSo 4 = .ok (.iconst 0, 1) := by decide +kernel
theorem dX9_areSo_5 : decode cX9_areSo 5 = .ok (.istore_n 1, 1) := by decide +kernel
theorem dX9_areSo_6 : decode cX9_areSo 6 = .ok (.iload_n 1, 1) := by decide +kernel
theorem dX9_areSo_7 : decode cX9_areSo 7 = .ok (.aload_n 0, 1) := by decide +kernel
theorem dX9_areSo_8 : decode cX9_areSo 8 = .ok (.getfield 81, 3) := by decide +kernel
theorem dX9_areSo_11 : decode cX9_areSo 11 = .ok (.if_icmp .ge 21, 3) := by decide +kernel
theorem dX9_areSo_14 : decode cX9_areSo 14 = .ok (.aload_n 0, 1) := by decide +kernel
theorem dX9_areSo_15 : decode cX9_areSo 15 = .ok (.getfield 19, 3) := by decide +kernel
theorem dX9_areSo_18 : decode cX9_areSo 18 = .ok (.iload_n 1, 1) := by decide +kernel
theorem dX9_areSo_19 : decode cX9_areSo 19 = .ok (.aload_n 0, 1) := by decide +kernel
theorem dX9_areSo_20 : decode cX9_areSo 20 = .ok (.getfield 26, 3) := by decide +kernel
theorem dX9_areSo_23 : decode cX9_areSo 23 = .ok (.iload_n 1, 1) := by decide +kernel
theorem dX9_areSo_24 : decode cX9_areSo 24 = .ok (.laload, 1) := by decide +kernel
theorem dX9_areSo_25 : decode cX9_areSo 25 = .ok (.lastore, 1) := by decide +kernel
theorem dX9_areSo_26 : decode cX9_areSo 26 = .ok (.iinc 1 1, 3) := by decide +kernel
theorem dX9_areSo_29 : decode cX9_areSo 29 = .ok (.goto (-23), 3) := by decide +kernel
theorem dX9_areSo_32 : decode cX9_areSo 32 = .ok (.iconst 0, 1) := by decide +kernel
theorem dX9_areSo_33 : decode cX9_areSo 33 = .ok (.istore_n 1, 1) := by decide +kernel
theorem dX9_areSo_34 : decode cX9_areSo 34 = .ok (.iload_n 1, 1) := by decide +kernel
theorem dX9_areSo_35 : decode cX9_areSo 35 = .ok (.aload_n 0, 1) := by decide +kernel
theorem dX9_areSo_36 : decode cX9_areSo 36 = .ok (.getfield 120, 3) := by decide +kernel
theorem dX9_areSo_39 : decode cX9_areSo 39 = .ok (.if_icmp .ge 38, 3) := by decide +kernel
theorem dX9_areSo_42 : decode cX9_areSo 42 = .ok (.aload_n 0, 1) := by decide +kernel
theorem dX9_areSo_43 : decode cX9_areSo 43 = .ok (.aload_n 0, 1) := by decide +kernel
theorem dX9_areSo_44 : decode cX9_areSo 44 = .ok (.getfield 35, 3) := by decide +kernel
theorem dX9_areSo_47 : decode cX9_areSo 47 = .ok (.iload_n 1, 1) := by decide +kernel
theorem dX9_areSo_48 : decode cX9_areSo 48 = .ok (.iaload, 1) := by decide +kernel
theorem dX9_areSo_49 : decode cX9_areSo 49 = .ok (.aload_n 0, 1) := by decide +kernel
theorem dX9_areSo_50 : decode cX9_areSo 50 = .ok (.getfield 38, 3) := by decide +kernel
theorem dX9_areSo_53 : decode cX9_areSo 53 = .ok (.iload_n 1, 1) := by decide +kernel
theorem dX9_areSo_54 : decode cX9_areSo 54 = .ok (.iaload, 1) := by decide +kernel
theorem dX9_areSo_55 : decode cX9_areSo 55 = .ok (.aload_n 0, 1) := by decide +kernel
theorem dX9_areSo_56 : decode cX9_areSo 56 = .ok (.getfield 41, 3) := by decide +kernel
theorem dX9_areSo_59 : decode cX9_areSo 59 = .ok (.iload_n 1, 1) := by decide +kernel
theorem dX9_areSo_60 : decode cX9_areSo 60 = .ok (.iaload, 1) := by decide +kernel
theorem dX9_areSo_61 : decode cX9_areSo 61 = .ok (.aload_n 0, 1) := by decide +kernel
theorem dX9_areSo_62 : decode cX9_areSo 62 = .ok (.getfield 44, 3) := by decide +kernel
theorem dX9_areSo_65 : decode cX9_areSo 65 = .ok (.iload_n 1, 1) := by decide +kernel
theorem dX9_areSo_66 : decode cX9_areSo 66 = .ok (.laload, 1) := by decide +kernel
theorem dX9_areSo_67 : decode cX9_areSo 67 = .ok (.invokevirtual 161, 3) := by decide +kernel
theorem dX9_areSo_70 : decode cX9_areSo 70 = .ok (.pop, 1) := by decide +kernel
theorem dX9_areSo_71 : decode cX9_areSo 71 = .ok (.iinc 1 1, 3) := by decide +kernel
theorem dX9_areSo_74 : decode cX9_areSo 74 = .ok (.goto (-40), 3) := by decide +kernel
theorem dX9_areSo_77 : decode cX9_areSo 77 = .ok (.iconst 1, 1) := by decide +kernel
theorem dX9_areSo_78 : decode cX9_areSo 78 = .ok (.istore_n 1, 1) := by decide +kernel
theorem dX9_areSo_79 : decode cX9_areSo 79 = .ok (.iconst 0, 1) := by decide +kernel
theorem dX9_areSo_80 : decode cX9_areSo 80 = .ok (.istore_n 2, 1) := by decide +kernel
theorem dX9_areSo_81 : decode cX9_areSo 81 = .ok (.iload_n 2, 1) := by decide +kernel
theorem dX9_areSo_82 : decode cX9_areSo 82 = .ok (.aload_n 0, 1) := by decide +kernel
theorem dX9_areSo_83 : decode cX9_areSo 83 = .ok (.getfield 117, 3) := by decide +kernel
theorem dX9_areSo_86 : decode cX9_areSo 86 = .ok (.if_icmp .ge 40, 3) := by decide +kernel
theorem dX9_areSo_89 : decode cX9_areSo 89 = .ok (.iload_n 1, 1) := by decide +kernel
theorem dX9_areSo_90 : decode cX9_areSo 90 = .ok (.ifCond .eq 28, 3) := by decide +kernel
theorem dX9_areSo_93 : decode cX9_areSo 93 = .ok (.aload_n 0, 1) := by decide +kernel
theorem dX9_areSo_94 : decode cX9_areSo 94 = .ok (.getfield 19, 3) := by decide +kernel
theorem dX9_areSo_97 : decode cX9_areSo 97 = .ok (.aload_n 0, 1) := by decide +kernel
theorem dX9_areSo_98 : decode cX9_areSo 98 = .ok (.getfield 65, 3) := by decide +kernel
theorem dX9_areSo_101 : decode cX9_areSo 101 = .ok (.iload_n 2, 1) := by decide +kernel
theorem dX9_areSo_102 : decode cX9_areSo 102 = .ok (.iaload, 1) := by decide +kernel
theorem dX9_areSo_103 : decode cX9_areSo 103 = .ok (.laload, 1) := by decide +kernel
theorem dX9_areSo_104 : decode cX9_areSo 104 = .ok (.aload_n 0, 1) := by decide +kernel
theorem dX9_areSo_105 : decode cX9_areSo 105 = .ok (.getfield 68, 3) := by decide +kernel
theorem dX9_areSo_108 : decode cX9_areSo 108 = .ok (.iload_n 2, 1) := by decide +kernel
theorem dX9_areSo_109 : decode cX9_areSo 109 = .ok (.laload, 1) := by decide +kernel
theorem dX9_areSo_110 : decode cX9_areSo 110 = .ok (.lcmp, 1) := by decide +kernel
theorem dX9_areSo_111 : decode cX9_areSo 111 = .ok (.ifCond .ne 7, 3) := by decide +kernel
theorem dX9_areSo_114 : decode cX9_areSo 114 = .ok (.iconst 1, 1) := by decide +kernel
theorem dX9_areSo_115 : decode cX9_areSo 115 = .ok (.goto 4, 3) := by decide +kernel
theorem dX9_areSo_118 : decode cX9_areSo 118 = .ok (.iconst 0, 1) := by decide +kernel
theorem dX9_areSo_119 : decode cX9_areSo 119 = .ok (.istore_n 1, 1) := by decide +kernel
theorem dX9_areSo_120 : decode cX9_areSo 120 = .ok (.iinc 2 1, 3) := by decide +kernel
theorem dX9_areSo_123 : decode cX9_areSo 123 = .ok (.goto (-42), 3) := by decide +kernel
theorem dX9_areSo_126 : decode cX9_areSo 126 = .ok (.aload_n 0, 1) := by decide +kernel
theorem dX9_areSo_127 : decode cX9_areSo 127 = .ok (.invokevirtual 186, 3) := by decide +kernel
theorem dX9_areSo_130 : decode cX9_areSo 130 = .ok (.iload_n 1, 1) := by decide +kernel
theorem dX9_areSo_131 : decode cX9_areSo 131 = .ok (.ireturn, 1) := by decide +kernel
set_option maxRecDepth 20000 in
theorem ggX9_kinds_X9_isHelper : GoodIn wsX9_kinds wsX9_isHelper := goodIn_r _ [6, 7, 47, 48, 49, 50, 51, 52, 53, 54, 55, 56, 57, 58, 59, 60, 61, 62, 63, 64, 65, 66, 67, 68, 69, 70, 71, 72, 73, 74, 75, 76, 77] (by decide +kernel) (by decide +kernel)
set_option maxRecDepth 20000 in
theorem gX9_kinds_X9_isHelper : GoodIn wsX9_kinds (wsV RX9 133 RX9 yX9_isHelper wsX9_isHelper) := goodIn_app (goodIn_of _ (by decide +kernel)) ggX9_kinds_X9_isHelper
set_option maxRecDepth 20000 in
theorem ggX9_kinds_X9_areSo : GoodIn wsX9_kinds wsX9_areSo := goodIn_r _ [11, 12, 13, 14, 15, 16, 17, 18, 19, 20, 21, 22, 23, 24, 25, 5, 26, 27, 28, 29, 30, 31, 32, 33, 34, 35, 36, 37, 1, 38, 39, 40, 41, 42, 43, 44, 45, 46, 47, 48, 49, 50, 51, 52, 53, 54, 55, 56, 57, 58, 59, 60, 61, 62, 63, 64, 65, 66, 67, 68, 69, 70, 71, 72, 73, 74, 75, 76, 77] (by decide +kernel) (by decide +kernel)
set_option maxRecDepth 20000 in
theorem gX9_kinds_X9_areSo : GoodIn wsX9_kinds (wsV RX9 228 RX9 yX9_areSo wsX9_areSo) := goodIn_app (goodIn_of _ (by decide +kernel)) ggX9_kinds_X9_areSo
theorem dX9_kinds_0 : decode cX9_kinds 0 = .ok (.aload_n 0, 1) := by decide +kernel
theorem dX9_kinds_1 : decode cX9_kinds 1 = .ok (.iload_n 1, 1) := by decide +kernel
theorem dX9_kinds_2 : decode cX9_kinds 2 = .ok (.invokevirtual 133, 3) := by decide +kernel
theorem dX9_kinds_5 : decode cX9_kinds 5 = .ok (.ifCond .ne 5, 3) := by decide +kernel
theorem dX9_kinds_8 : decode cX9_kinds 8 = .ok (.iconst (-1), 1) := by decide +kernel
theorem dX9_kinds_9 : decode cX9_kinds 9 = .ok (.ireturn, 1) := by decide +kernel
theorem dX9_kinds_10 : decode cX9_kinds 10 = .ok (.aload_n 0, 1) := by decide +kernel
theorem dX9_kinds_11 : decode cX9_kinds 11 = .ok (.getfield 29, 3) := by decide +kernel
theorem dX9_kinds_14 : decode cX9_kinds 14 = .ok (.iload_n 1, 1) := by decide +kernel
theorem dX9_kinds_15 : decode cX9_kinds 15 = .ok (.iaload, 1) := by decide +kernel
theorem dX9_kinds_16 : decode cX9_kinds 16 = .ok (.istore_n 2, 1) := by decide +kernel
theorem dX9_kinds_17 : decode cX9_kinds 17 = .ok (.iconst 0, 1) := by decide +kernel
theorem dX9_kinds_18 : decode cX9_kinds 18 = .ok (.istore_n 3, 1) := by decide +kernel
theorem dX9_kinds_19 : decode cX9_kinds 19 = .ok (.iconst 0, 1) := by decide +kernel
theorem dX9_kinds_20 : decode cX9_kinds 20 = .ok (.istore 4, 2) := by decide +kernel
theorem dX9_kinds_22 : decode cX9_kinds 22 = .ok (.iload 4, 2) := by decide +kernel
theorem dX9_kinds_24 : decode cX9_kinds 24 = .ok (.iconst 3, 1) := by decide +kernel
theorem dX9_kinds_25 : decode cX9_kinds 25 = .ok (.if_icmp .ge 35, 3) := by decide +kernel
theorem dX9_kinds_28 : decode cX9_kinds 28 = .ok (.aload_n 0, 1) := by decide +kernel
theorem dX9_kinds_29 : decode cX9_kinds 29 = .ok (.getfield 29, 3) := by decide +kernel
theorem dX9_kinds_32 : decode cX9_kinds 32 = .ok (.iload_n 1, 1) := by decide +kernel
theorem dX9_kinds_33 : decode cX9_kinds 33 = .ok (.iload 4, 2) := by decide +kernel
theorem dX9_kinds_35 : decode cX9_kinds 35 = .ok (.iastore, 1) := by decide +kernel
theorem dX9_kinds_36 : decode cX9_kinds 36 = .ok (.iload_n 3, 1) := by decide +kernel
theorem dX9_kinds_37 : decode cX9_kinds 37 = .ok (.aload_n 0, 1) := by decide +kernel
theorem dX9_kinds_38 : decode cX9_kinds 38 = .ok (.invokevirtual 228, 3) := by decide +kernel
theorem dX9_kinds_41 : decode cX9_kinds 41 = .ok (.ifCond .eq 10, 3) := by decide +kernel
theorem dX9_kinds_44 : decode cX9_kinds 44 = .ok (.iconst 1, 1) := by decide +kernel
theorem dX9_kinds_45 : decode cX9_kinds 45 = .ok (.iload 4, 2) := by decide +kernel
theorem dX9_kinds_47 : decode cX9_kinds 47 = .ok (.ishl, 1) := by decide +kernel
theorem dX9_kinds_48 : decode cX9_kinds 48 = .ok (.goto 4, 3) := by decide +kernel
theorem dX9_kinds_51 : decode cX9_kinds 51 = .ok (.iconst 0, 1) := by decide +kernel
theorem dX9_kinds_52 : decode cX9_kinds 52 = .ok (.ior, 1) := by decide +kernel
theorem dX9_kinds_53 : decode cX9_kinds 53 = .ok (.istore_n 3, 1) := by decide +kernel
theorem dX9_kinds_54 : decode cX9_kinds 54 = .ok (.iinc 4 1, 3) := by decide +kernel
theorem dX9_kinds_57 : decode cX9_kinds 57 = .ok (.goto (-35), 3) := by decide +kernel
theorem dX9_kinds_60 : decode cX9_kinds 60 = .ok (.aload_n 0, 1) := by decide +kernel
theorem dX9_kinds_61 : decode cX9_kinds 61 = .ok (.getfield 29, 3) := by decide +kernel
theorem dX9_kinds_64 : decode cX9_kinds 64 = .ok (.iload_n 1, 1) := by decide +kernel
theorem dX9_kinds_65 : decode cX9_kinds 65 = .ok (.iload_n 2, 1) := by decide +kernel
theorem dX9_kinds_66 : decode cX9_kinds 66 = .ok (.iastore, 1) := by decide +kernel
theorem dX9_kinds_67 : decode cX9_kinds 67 = .ok (.iload_n 3, 1) := by decide +kernel
theorem dX9_kinds_68 : decode cX9_kinds 68 = .ok (.ireturn, 1) := by decide +kernel
set_option maxRecDepth 20000 in
theorem ggX9_paces_X9_isHelper : GoodIn wsX9_paces wsX9_isHelper := goodIn_r _ [6, 7, 47, 48, 49, 50, 51, 52, 53, 54, 55, 56, 57, 58, 59, 60, 61, 62, 63, 64, 65, 66, 67, 68, 69, 70, 71, 72, 73, 74, 75, 76, 77] (by decide +kernel) (by decide +kernel)
set_option maxRecDepth 20000 in
theorem gX9_paces_X9_isHelper : GoodIn wsX9_paces (wsV RX9 133 RX9 yX9_isHelper wsX9_isHelper) := goodIn_app (goodIn_of _ (by decide +kernel)) ggX9_paces_X9_isHelper
set_option maxRecDepth 20000 in
theorem ggX9_paces_X9_areSo : GoodIn wsX9_paces wsX9_areSo := goodIn_r _ [11, 12, 13, 14, 15, 16, 17, 18, 19, 20, 21, 22, 23, 24, 25, 5, 26, 27, 28, 29, 30, 31, 32, 33, 34, 35, 36, 37, 38, 1, 39, 40, 41, 42, 43, 44, 45, 46, 47, 48, 49, 50, 51, 52, 53, 54, 55, 56, 57, 58, 59, 60, 61, 62, 63, 64, 65, 66, 67, 68, 69, 70, 71, 72, 73, 74, 75, 76, 77] (by decide +kernel) (by decide +kernel)
set_option maxRecDepth 20000 in
theorem gX9_paces_X9_areSo : GoodIn wsX9_paces (wsV RX9 228 RX9 yX9_areSo wsX9_areSo) := goodIn_app (goodIn_of _ (by decide +kernel)) ggX9_paces_X9_areSo
theorem dX9_paces_0 : decode cX9_paces 0 = .ok (.aload_n 0, 1) := by decide +kernel
theorem dX9_paces_1 : decode cX9_paces 1 = .ok (.iload_n 1, 1) := by decide +kernel
theorem dX9_paces_2 : decode cX9_paces 2 = .ok (.invokevirtual 133, 3) := by decide +kernel
theorem dX9_paces_5 : decode cX9_paces 5 = .ok (.ifCond .ne 5, 3) := by decide +kernel
theorem dX9_paces_8 : decode cX9_paces 8 = .ok (.iconst (-1), 1) := by decide +kernel
theorem dX9_paces_9 : decode cX9_paces 9 = .ok (.ireturn, 1) := by decide +kernel
theorem dX9_paces_10 : decode cX9_paces 10 = .ok (.aload_n 0, 1) := by decide +kernel
theorem dX9_paces_11 : decode cX9_paces 11 = .ok (.getfield 32, 3) := by decide +kernel
theorem dX9_paces_14 : decode cX9_paces 14 = .ok (.iload_n 1, 1) := by decide +kernel
theorem dX9_paces_15 : decode cX9_paces 15 = .ok (.iaload, 1) := by decide +kernel
theorem dX9_paces_16 : decode cX9_paces 16 = .ok (.istore_n 2, 1) := by decide +kernel
theorem dX9_paces_17 : decode cX9_paces 17 = .ok (.iconst 0, 1) := by decide +kernel
theorem dX9_paces_18 : decode cX9_paces 18 = .ok (.istore_n 3, 1) := by decide +kernel
theorem dX9_paces_19 : decode cX9_paces 19 = .ok (.iconst 0, 1) := by decide +kernel
theorem dX9_paces_20 : decode cX9_paces 20 = .ok (.istore 4, 2) := by decide +kernel
theorem dX9_paces_22 : decode cX9_paces 22 = .ok (.iload 4, 2) := by decide +kernel
theorem dX9_paces_24 : decode cX9_paces 24 = .ok (.bipush 9, 2) := by decide +kernel
theorem dX9_paces_26 : decode cX9_paces 26 = .ok (.if_icmp .gt 35, 3) := by decide +kernel
theorem dX9_paces_29 : decode cX9_paces 29 = .ok (.aload_n 0, 1) := by decide +kernel
theorem dX9_paces_30 : decode cX9_paces 30 = .ok (.getfield 32, 3) := by decide +kernel
theorem dX9_paces_33 : decode cX9_paces 33 = .ok (.iload_n 1, 1) := by decide +kernel
theorem dX9_paces_34 : decode cX9_paces 34 = .ok (.iload 4, 2) := by decide +kernel
theorem dX9_paces_36 : decode cX9_paces 36 = .ok (.iastore, 1) := by decide +kernel
theorem dX9_paces_37 : decode cX9_paces 37 = .ok (.iload_n 3, 1) := by decide +kernel
theorem dX9_paces_38 : decode cX9_paces 38 = .ok (.aload_n 0, 1) := by decide +kernel
theorem dX9_paces_39 : decode cX9_paces 39 = .ok (.invokevirtual 228, 3) := by decide +kernel
theorem dX9_paces_42 : decode cX9_paces 42 = .ok (.ifCond .eq 10, 3) := by decide +kernel
theorem dX9_paces_45 : decode cX9_paces 45 = .ok (.iconst 1, 1) := by decide +kernel
theorem dX9_paces_46 : decode cX9_paces 46 = .ok (.iload 4, 2) := by decide +kernel
theorem dX9_paces_48 : decode cX9_paces 48 = .ok (.ishl, 1) := by decide +kernel
theorem dX9_paces_49 : decode cX9_paces 49 = .ok (.goto 4, 3) := by decide +kernel
theorem dX9_paces_52 : decode cX9_paces 52 = .ok (.iconst 0, 1) := by decide +kernel
theorem dX9_paces_53 : decode cX9_paces 53 = .ok (.ior, 1) := by decide +kernel
theorem dX9_paces_54 : decode cX9_paces 54 = .ok (.istore_n 3, 1) := by decide +kernel
theorem dX9_paces_55 : decode cX9_paces 55 = .ok (.iinc 4 1, 3) := by decide +kernel
theorem dX9_paces_58 : decode cX9_paces 58 = .ok (.goto (-36), 3) := by decide +kernel
theorem dX9_paces_61 : decode cX9_paces 61 = .ok (.aload_n 0, 1) := by decide +kernel
theorem dX9_paces_62 : decode cX9_paces 62 = .ok (.getfield 32, 3) := by decide +kernel
theorem dX9_paces_65 : decode cX9_paces 65 = .ok (.iload_n 1, 1) := by decide +kernel
theorem dX9_paces_66 : decode cX9_paces 66 = .ok (.iload_n 2, 1) := by decide +kernel
theorem dX9_paces_67 : decode cX9_paces 67 = .ok (.iastore, 1) := by decide +kernel
theorem dX9_paces_68 : decode cX9_paces 68 = .ok (.iload_n 3, 1) := by decide +kernel
theorem dX9_paces_69 : decode cX9_paces 69 = .ok (.ireturn, 1) := by decide +kernel
theorem dX9_inLeastTerms_0 : decode cX9_inLeastTerms 0 = .ok (.lload_n 0, 1) := by decide +kernel
theorem dX9_inLeastTerms_1 : decode cX9_inLeastTerms 1 = .ok (.lstore 5, 2) := by decide +kernel
theorem dX9_inLeastTerms_3 : decode cX9_inLeastTerms 3 = .ok (.lload_n 2, 1) := by decide +kernel
theorem dX9_inLeastTerms_4 : decode cX9_inLeastTerms 4 = .ok (.lstore 7, 2) := by decide +kernel
theorem dX9_inLeastTerms_6 : decode cX9_inLeastTerms 6 = .ok (.lload 7, 2) := by decide +kernel
theorem dX9_inLeastTerms_8 : decode cX9_inLeastTerms 8 = .ok (.lconst 0, 1) := by decide +kernel
theorem dX9_inLeastTerms_9 : decode cX9_inLeastTerms 9 = .ok (.lcmp, 1) := by decide +kernel
theorem dX9_inLeastTerms_10 : decode cX9_inLeastTerms 10 = .ok (.ifCond .eq 21, 3) := by decide +kernel
theorem dX9_inLeastTerms_13 : decode cX9_inLeastTerms 13 = .ok (.lload 5, 2) := by decide +kernel
theorem dX9_inLeastTerms_15 : decode cX9_inLeastTerms 15 = .ok (.lload 7, 2) := by decide +kernel
theorem dX9_inLeastTerms_17 : decode cX9_inLeastTerms 17 = .ok (.lrem, 1) := by decide +kernel
theorem dX9_inLeastTerms_18 : decode cX9_inLeastTerms 18 = .ok (.lstore 9, 2) := by decide +kernel
theorem dX9_inLeastTerms_20 : decode cX9_inLeastTerms 20 = .ok (.lload 7, 2) := by decide +kernel
theorem dX9_inLeastTerms_22 : decode cX9_inLeastTerms 22 = .ok (.lstore 5, 2) := by decide +kernel
theorem dX9_inLeastTerms_24 : decode cX9_inLeastTerms 24 = .ok (.lload 9, 2) := by decide +kernel
theorem dX9_inLeastTerms_26 : decode cX9_inLeastTerms 26 = .ok (.lstore 7, 2) := by decide +kernel
theorem dX9_inLeastTerms_28 : decode cX9_inLeastTerms 28 = .ok (.goto (-22), 3) := by decide +kernel
theorem dX9_inLeastTerms_31 : decode cX9_inLeastTerms 31 = .ok (.iload 4, 2) := by decide +kernel
theorem dX9_inLeastTerms_33 : decode cX9_inLeastTerms 33 = .ok (.ifCond .ne 10, 3) := by decide +kernel
theorem dX9_inLeastTerms_36 : decode cX9_inLeastTerms 36 = .ok (.lload_n 0, 1) := by decide +kernel
theorem dX9_inLeastTerms_37 : decode cX9_inLeastTerms 37 = .ok (.lload 5, 2) := by decide +kernel
theorem dX9_inLeastTerms_39 : decode cX9_inLeastTerms 39 = .ok (.ldiv, 1) := by decide +kernel
theorem dX9_inLeastTerms_40 : decode cX9_inLeastTerms 40 = .ok (.goto 7, 3) := by decide +kernel
theorem dX9_inLeastTerms_43 : decode cX9_inLeastTerms 43 = .ok (.lload_n 2, 1) := by decide +kernel
theorem dX9_inLeastTerms_44 : decode cX9_inLeastTerms 44 = .ok (.lload 5, 2) := by decide +kernel
theorem dX9_inLeastTerms_46 : decode cX9_inLeastTerms 46 = .ok (.ldiv, 1) := by decide +kernel
theorem dX9_inLeastTerms_47 : decode cX9_inLeastTerms 47 = .ok (.lreturn, 1) := by decide +kernel
set_option maxRecDepth 20000 in
theorem ggX9_odds_X9_isCell : GoodIn wsX9_odds wsX9_isCell := goodIn_r _ [7, 8, 15, 16, 17, 18, 19, 20, 21, 22, 23, 24, 25, 26, 27, 28, 29, 30, 31, 32, 33, 34, 35, 36, 37, 38, 39, 40, 41, 42, 43, 44, 45] (by decide +kernel) (by decide +kernel)
set_option maxRecDepth 20000 in
theorem gX9_odds_X9_isCell : GoodIn wsX9_odds (wsV RX9 142 RX9 yX9_isCell wsX9_isCell) := goodIn_app (goodIn_of _ (by decide +kernel)) ggX9_odds_X9_isCell
set_option maxRecDepth 20000 in
theorem ggX9_odds_X9_within : GoodIn wsX9_odds wsX9_within := goodIn_r _ [11] (by decide +kernel) (by decide +kernel)
set_option maxRecDepth 20000 in
theorem gX9_odds_X9_within : GoodIn wsX9_odds (va_wsS RX9 77 yX9_within wsX9_within) := goodIn_app (goodIn_of _ (by decide +kernel)) ggX9_odds_X9_within
set_option maxRecDepth 20000 in
theorem ggX9_odds_X9_inLeastTerms : GoodIn wsX9_odds wsX9_inLeastTerms := goodIn_r _ [14] (by decide +kernel) (by decide +kernel)
set_option maxRecDepth 20000 in
theorem gX9_odds_X9_inLeastTerms : GoodIn wsX9_odds (va_wsS RX9 232 yX9_inLeastTerms wsX9_inLeastTerms) := goodIn_app (goodIn_of _ (by decide +kernel)) ggX9_odds_X9_inLeastTerms
theorem dX9_odds_0 : decode cX9_odds 0 = .ok (.aload_n 0, 1) := by decide +kernel
theorem dX9_odds_1 : decode cX9_odds 1 = .ok (.iload_n 1, 1) := by decide +kernel
theorem dX9_odds_2 : decode cX9_odds 2 = .ok (.invokevirtual 142, 3) := by decide +kernel
theorem dX9_odds_5 : decode cX9_odds 5 = .ok (.ifCond .eq 26, 3) := by decide +kernel
theorem dX9_odds_8 : decode cX9_odds 8 = .ok (.aload_n 0, 1) := by decide +kernel
theorem dX9_odds_9 : decode cX9_odds 9 = .ok (.iload_n 2, 1) := by decide +kernel
theorem dX9_odds_10 : decode cX9_odds 10 = .ok (.invokevirtual 142, 3) := by decide +kernel
theorem dX9_odds_13 : decode cX9_odds 13 = .ok (.ifCond .eq 18, 3) := by decide +kernel
theorem dX9_odds_16 : decode cX9_odds 16 = .ok (.iload_n 1, 1) := by decide +kernel
theorem dX9_odds_17 : decode cX9_odds 17 = .ok (.iload_n 2, 1) := by decide +kernel
theorem dX9_odds_18 : decode cX9_odds 18 = .ok (.if_icmp .gt 13, 3) := by decide +kernel
theorem dX9_odds_21 : decode cX9_odds 21 = .ok (.iload 5, 2) := by decide +kernel
theorem dX9_odds_23 : decode cX9_odds 23 = .ok (.iconst 0, 1) := by decide +kernel
theorem dX9_odds_24 : decode cX9_odds 24 = .ok (.iconst 1, 1) := by decide +kernel
theorem dX9_odds_25 : decode cX9_odds 25 = .ok (.invokestatic 77, 3) := by decide +kernel
theorem dX9_odds_28 : decode cX9_odds 28 = .ok (.ifCond .ne 7, 3) := by decide +kernel
theorem dX9_odds_31 : decode cX9_odds 31 = .ok (.ldc2_w 75, 3) := by decide +kernel
theorem dX9_odds_34 : decode cX9_odds 34 = .ok (.lreturn, 1) := by decide +kernel
theorem dX9_odds_35 : decode cX9_odds 35 = .ok (.iconst 0, 1) := by decide +kernel
theorem dX9_odds_36 : decode cX9_odds 36 = .ok (.istore 6, 2) := by decide +kernel
theorem dX9_odds_38 : decode cX9_odds 38 = .ok (.iload_n 1, 1) := by decide +kernel
theorem dX9_odds_39 : decode cX9_odds 39 = .ok (.istore 7, 2) := by decide +kernel
theorem dX9_odds_41 : decode cX9_odds 41 = .ok (.iload 7, 2) := by decide +kernel
theorem dX9_odds_43 : decode cX9_odds 43 = .ok (.iload_n 2, 1) := by decide +kernel
theorem dX9_odds_44 : decode cX9_odds 44 = .ok (.if_icmp .gt 31, 3) := by decide +kernel
theorem dX9_odds_47 : decode cX9_odds 47 = .ok (.iload 6, 2) := by decide +kernel
theorem dX9_odds_49 : decode cX9_odds 49 = .ok (.aload_n 0, 1) := by decide +kernel
theorem dX9_odds_50 : decode cX9_odds 50 = .ok (.getfield 19, 3) := by decide +kernel
theorem dX9_odds_53 : decode cX9_odds 53 = .ok (.iload 7, 2) := by decide +kernel
theorem dX9_odds_55 : decode cX9_odds 55 = .ok (.laload, 1) := by decide +kernel
theorem dX9_odds_56 : decode cX9_odds 56 = .ok (.lload_n 3, 1) := by decide +kernel
theorem dX9_odds_57 : decode cX9_odds 57 = .ok (.lcmp, 1) := by decide +kernel
theorem dX9_odds_58 : decode cX9_odds 58 = .ok (.ifCond .lt 7, 3) := by decide +kernel
theorem dX9_odds_61 : decode cX9_odds 61 = .ok (.iconst 1, 1) := by decide +kernel
theorem dX9_odds_62 : decode cX9_odds 62 = .ok (.goto 4, 3) := by decide +kernel
theorem dX9_odds_65 : decode cX9_odds 65 = .ok (.iconst 0, 1) := by decide +kernel
theorem dX9_odds_66 : decode cX9_odds 66 = .ok (.iadd, 1) := by decide +kernel
theorem dX9_odds_67 : decode cX9_odds 67 = .ok (.istore 6, 2) := by decide +kernel
theorem dX9_odds_69 : decode cX9_odds 69 = .ok (.iinc 7 1, 3) := by decide +kernel
theorem dX9_odds_72 : decode cX9_odds 72 = .ok (.goto (-31), 3) := by decide +kernel
theorem dX9_odds_75 : decode cX9_odds 75 = .ok (.iload 6, 2) := by decide +kernel
theorem dX9_odds_77 : decode cX9_odds 77 = .ok (.i2l, 1) := by decide +kernel
theorem dX9_odds_78 : decode cX9_odds 78 = .ok (.iload_n 2, 1) := by decide +kernel
theorem dX9_odds_79 : decode cX9_odds 79 = .ok (.iload_n 1, 1) := by decide +kernel
theorem dX9_odds_80 : decode cX9_odds 80 = .ok (.isub, 1) := by decide +kernel
theorem dX9_odds_81 : decode cX9_odds 81 = .ok (.iconst 1, 1) := by decide +kernel
theorem dX9_odds_82 : decode cX9_odds 82 = .ok (.iadd, 1) := by decide +kernel
theorem dX9_odds_83 : decode cX9_odds 83 = .ok (.i2l, 1) := by decide +kernel
theorem dX9_odds_84 : decode cX9_odds 84 = .ok (.iload 5, 2) := by decide +kernel
theorem dX9_odds_86 : decode cX9_odds 86 = .ok (.invokestatic 232, 3) := by decide +kernel
theorem dX9_odds_89 : decode cX9_odds 89 = .ok (.lreturn, 1) := by decide +kernel
set_option maxRecDepth 20000 in
theorem ggX9_sheet_X9_isSheet : GoodIn wsX9_sheet wsX9_isSheet := goodIn_r _ [8, 9, 10, 7, 11] (by decide +kernel) (by decide +kernel)
set_option maxRecDepth 20000 in
theorem gX9_sheet_X9_isSheet : GoodIn wsX9_sheet (va_wsS RX9 90 yX9_isSheet wsX9_isSheet) := goodIn_app (goodIn_of _ (by decide +kernel)) ggX9_sheet_X9_isSheet
set_option maxRecDepth 20000 in
theorem ggX9_sheet_X9_isSort : GoodIn wsX9_sheet wsX9_isSort := goodIn_r _ [14, 9, 10, 7, 11] (by decide +kernel) (by decide +kernel)
set_option maxRecDepth 20000 in
theorem gX9_sheet_X9_isSort : GoodIn wsX9_sheet (va_wsS RX9 94 yX9_isSort wsX9_isSort) := goodIn_app (goodIn_of _ (by decide +kernel)) ggX9_sheet_X9_isSort
set_option maxRecDepth 20000 in
theorem ggX9_sheet_X9_fails : GoodIn wsX9_sheet wsX9_fails := goodIn_r _ [18, 1, 19, 20, 21, 22, 23, 24, 25, 26, 27, 28, 29, 30, 31, 32, 33, 34, 35, 36, 37, 38, 39, 40, 41, 42, 43, 44, 45, 46, 47, 48, 49] (by decide +kernel) (by decide +kernel)
set_option maxRecDepth 20000 in
theorem gX9_sheet_X9_fails : GoodIn wsX9_sheet (wsV RX9 101 RX9 yX9_fails wsX9_fails) := goodIn_app (goodIn_of _ (by decide +kernel)) ggX9_sheet_X9_fails
theorem dX9_sheet_0 : decode cX9_sheet 0 = .ok (.aload_n 0, 1) := by decide +kernel
theorem dX9_sheet_1 : decode cX9_sheet 1 = .ok (.iconst 0, 1) := by decide +kernel
theorem dX9_sheet_2 : decode cX9_sheet 2 = .ok (.putfield 71, 3) := by decide +kernel
theorem dX9_sheet_5 : decode cX9_sheet 5 = .ok (.iload_n 1, 1) := by decide +kernel
theorem dX9_sheet_6 : decode cX9_sheet 6 = .ok (.invokestatic 90, 3) := by decide +kernel
theorem dX9_sheet_9 : decode cX9_sheet 9 = .ok (.ifCond .ne 5, 3) := by decide +kernel
theorem dX9_sheet_12 : decode cX9_sheet 12 = .ok (.iconst (-1), 1) := by decide +kernel
theorem dX9_sheet_13 : decode cX9_sheet 13 = .ok (.ireturn, 1) := by decide +kernel
theorem dX9_sheet_14 : decode cX9_sheet 14 = .ok (.iload_n 2, 1) := by decide +kernel
theorem dX9_sheet_15 : decode cX9_sheet 15 = .ok (.invokestatic 94, 3) := by decide +kernel
theorem dX9_sheet_18 : decode cX9_sheet 18 = .ok (.ifCond .eq 9, 3) := by decide +kernel
theorem dX9_sheet_21 : decode cX9_sheet 21 = .ok (.iload_n 3, 1) := by decide +kernel
theorem dX9_sheet_22 : decode cX9_sheet 22 = .ok (.bipush 60, 2) := by decide +kernel
theorem dX9_sheet_24 : decode cX9_sheet 24 = .ok (.if_icmp .le 6, 3) := by decide +kernel
theorem dX9_sheet_27 : decode cX9_sheet 27 = .ok (.bipush (-2), 2) := by decide +kernel
theorem dX9_sheet_29 : decode cX9_sheet 29 = .ok (.ireturn, 1) := by decide +kernel
theorem dX9_sheet_30 : decode cX9_sheet 30 = .ok (.iload_n 3, 1) := by decide +kernel
theorem dX9_sheet_31 : decode cX9_sheet 31 = .ok (.ifCond .ge 9, 3) := by decide +kernel
theorem dX9_sheet_34 : decode cX9_sheet 34 = .ok (.aload_n 0, 1) := by decide +kernel
theorem dX9_sheet_35 : decode cX9_sheet 35 = .ok (.iconst 4, 1) := by decide +kernel
theorem dX9_sheet_36 : decode cX9_sheet 36 = .ok (.invokevirtual 101, 3) := by decide +kernel
theorem dX9_sheet_39 : decode cX9_sheet 39 = .ok (.ireturn, 1) := by decide +kernel
theorem dX9_sheet_40 : decode cX9_sheet 40 = .ok (.aload_n 0, 1) := by decide +kernel
theorem dX9_sheet_41 : decode cX9_sheet 41 = .ok (.getfield 9, 3) := by decide +kernel
theorem dX9_sheet_44 : decode cX9_sheet 44 = .ok (.iload_n 1, 1) := by decide +kernel
theorem dX9_sheet_45 : decode cX9_sheet 45 = .ok (.iload_n 2, 1) := by decide +kernel
theorem dX9_sheet_46 : decode cX9_sheet 46 = .ok (.iastore, 1) := by decide +kernel
theorem dX9_sheet_47 : decode cX9_sheet 47 = .ok (.aload_n 0, 1) := by decide +kernel
theorem dX9_sheet_48 : decode cX9_sheet 48 = .ok (.getfield 13, 3) := by decide +kernel
theorem dX9_sheet_51 : decode cX9_sheet 51 = .ok (.iload_n 1, 1) := by decide +kernel
theorem dX9_sheet_52 : decode cX9_sheet 52 = .ok (.iload_n 3, 1) := by decide +kernel
theorem dX9_sheet_53 : decode cX9_sheet 53 = .ok (.iastore, 1) := by decide +kernel
theorem dX9_sheet_54 : decode cX9_sheet 54 = .ok (.iconst 0, 1) := by decide +kernel
theorem dX9_sheet_55 : decode cX9_sheet 55 = .ok (.istore 4, 2) := by decide +kernel
theorem dX9_sheet_57 : decode cX9_sheet 57 = .ok (.iload 4, 2) := by decide +kernel
theorem dX9_sheet_59 : decode cX9_sheet 59 = .ok (.bipush 60, 2) := by decide +kernel
theorem dX9_sheet_61 : decode cX9_sheet 61 = .ok (.if_icmp .ge 22, 3) := by decide +kernel
theorem dX9_sheet_64 : decode cX9_sheet 64 = .ok (.aload_n 0, 1) := by decide +kernel
theorem dX9_sheet_65 : decode cX9_sheet 65 = .ok (.getfield 16, 3) := by decide +kernel
theorem dX9_sheet_68 : decode cX9_sheet 68 = .ok (.bipush 60, 2) := by decide +kernel
theorem dX9_sheet_70 : decode cX9_sheet 70 = .ok (.iload_n 1, 1) := by decide +kernel
theorem dX9_sheet_71 : decode cX9_sheet 71 = .ok (.imul, 1) := by decide +kernel
theorem dX9_sheet_72 : decode cX9_sheet 72 = .ok (.iload 4, 2) := by decide +kernel
theorem dX9_sheet_74 : decode cX9_sheet 74 = .ok (.iadd, 1) := by decide +kernel
theorem dX9_sheet_75 : decode cX9_sheet 75 = .ok (.iconst 0, 1) := by decide +kernel
theorem dX9_sheet_76 : decode cX9_sheet 76 = .ok (.iastore, 1) := by decide +kernel
theorem dX9_sheet_77 : decode cX9_sheet 77 = .ok (.iinc 4 1, 3) := by decide +kernel
theorem dX9_sheet_80 : decode cX9_sheet 80 = .ok (.goto (-23), 3) := by decide +kernel
theorem dX9_sheet_83 : decode cX9_sheet 83 = .ok (.iconst 1, 1) := by decide +kernel
theorem dX9_sheet_84 : decode cX9_sheet 84 = .ok (.ireturn, 1) := by decide +kernel
set_option maxRecDepth 20000 in
theorem ggX9_lose_X9_isSheet : GoodIn wsX9_lose wsX9_isSheet := goodIn_r _ [5, 6, 7, 4, 8] (by decide +kernel) (by decide +kernel)
set_option maxRecDepth 20000 in
theorem gX9_lose_X9_isSheet : GoodIn wsX9_lose (va_wsS RX9 90 yX9_isSheet wsX9_isSheet) := goodIn_app (goodIn_of _ (by decide +kernel)) ggX9_lose_X9_isSheet
theorem dX9_lose_0 : decode cX9_lose 0 = .ok (.iload_n 1, 1) := by decide +kernel
theorem dX9_lose_1 : decode cX9_lose 1 = .ok (.invokestatic 90, 3) := by decide +kernel
theorem dX9_lose_4 : decode cX9_lose 4 = .ok (.ifCond .ne 5, 3) := by decide +kernel
theorem dX9_lose_7 : decode cX9_lose 7 = .ok (.iconst (-1), 1) := by decide +kernel
theorem dX9_lose_8 : decode cX9_lose 8 = .ok (.ireturn, 1) := by decide +kernel
theorem dX9_lose_9 : decode cX9_lose 9 = .ok (.aload_n 0, 1) := by decide +kernel
theorem dX9_lose_10 : decode cX9_lose 10 = .ok (.getfield 9, 3) := by decide +kernel
theorem dX9_lose_13 : decode cX9_lose 13 = .ok (.iload_n 1, 1) := by decide +kernel
theorem dX9_lose_14 : decode cX9_lose 14 = .ok (.iaload, 1) := by decide +kernel
theorem dX9_lose_15 : decode cX9_lose 15 = .ok (.bipush (-9), 2) := by decide +kernel
theorem dX9_lose_17 : decode cX9_lose 17 = .ok (.if_icmp .ne 7, 3) := by decide +kernel
theorem dX9_lose_20 : decode cX9_lose 20 = .ok (.iconst 0, 1) := by decide +kernel
theorem dX9_lose_21 : decode cX9_lose 21 = .ok (.goto 4, 3) := by decide +kernel
theorem dX9_lose_24 : decode cX9_lose 24 = .ok (.iconst 1, 1) := by decide +kernel
theorem dX9_lose_25 : decode cX9_lose 25 = .ok (.istore_n 2, 1) := by decide +kernel
theorem dX9_lose_26 : decode cX9_lose 26 = .ok (.aload_n 0, 1) := by decide +kernel
theorem dX9_lose_27 : decode cX9_lose 27 = .ok (.getfield 9, 3) := by decide +kernel
theorem dX9_lose_30 : decode cX9_lose 30 = .ok (.iload_n 1, 1) := by decide +kernel
theorem dX9_lose_31 : decode cX9_lose 31 = .ok (.bipush (-9), 2) := by decide +kernel
theorem dX9_lose_33 : decode cX9_lose 33 = .ok (.iastore, 1) := by decide +kernel
theorem dX9_lose_34 : decode cX9_lose 34 = .ok (.iload_n 2, 1) := by decide +kernel
theorem dX9_lose_35 : decode cX9_lose 35 = .ok (.ireturn, 1) := by decide +kernel
set_option maxRecDepth 20000 in
theorem ggX9_put_X9_isSheet : GoodIn wsX9_put wsX9_isSheet := goodIn_r _ [8, 9, 10, 7, 11] (by decide +kernel) (by decide +kernel)
set_option maxRecDepth 20000 in
theorem gX9_put_X9_isSheet : GoodIn wsX9_put (va_wsS RX9 90 yX9_isSheet wsX9_isSheet) := goodIn_app (goodIn_of _ (by decide +kernel)) ggX9_put_X9_isSheet
set_option maxRecDepth 20000 in
theorem ggX9_put_X9_fails : GoodIn wsX9_put wsX9_fails := goodIn_r _ [15, 1, 16, 17, 18, 19, 20, 21, 22, 23, 24, 25, 26, 27, 28, 29, 30, 31, 32, 33, 34, 35, 36, 37, 38, 39, 40, 41, 42, 43, 44, 45, 46] (by decide +kernel) (by decide +kernel)
set_option maxRecDepth 20000 in
theorem gX9_put_X9_fails : GoodIn wsX9_put (wsV RX9 101 RX9 yX9_fails wsX9_fails) := goodIn_app (goodIn_of _ (by decide +kernel)) ggX9_put_X9_fails
set_option maxRecDepth 20000 in
theorem ggX9_put_X9_within : GoodIn wsX9_put wsX9_within := goodIn_r _ [11] (by decide +kernel) (by decide +kernel)
set_option maxRecDepth 20000 in
theorem gX9_put_X9_within : GoodIn wsX9_put (va_wsS RX9 77 yX9_within wsX9_within) := goodIn_app (goodIn_of _ (by decide +kernel)) ggX9_put_X9_within
theorem dX9_put_0 : decode cX9_put 0 = .ok (.aload_n 0, 1) := by decide +kernel
theorem dX9_put_1 : decode cX9_put 1 = .ok (.iconst 0, 1) := by decide +kernel
theorem dX9_put_2 : decode cX9_put 2 = .ok (.putfield 71, 3) := by decide +kernel
theorem dX9_put_5 : decode cX9_put 5 = .ok (.iload_n 1, 1) := by decide +kernel
theorem dX9_put_6 : decode cX9_put 6 = .ok (.invokestatic 90, 3) := by decide +kernel
theorem dX9_put_9 : decode cX9_put 9 = .ok (.ifCond .ne 5, 3) := by decide +kernel
theorem dX9_put_12 : decode cX9_put 12 = .ok (.iconst (-1), 1) := by decide +kernel
theorem dX9_put_13 : decode cX9_put 13 = .ok (.ireturn, 1) := by decide +kernel
theorem dX9_put_14 : decode cX9_put 14 = .ok (.aload_n 0, 1) := by decide +kernel
theorem dX9_put_15 : decode cX9_put 15 = .ok (.getfield 9, 3) := by decide +kernel
theorem dX9_put_18 : decode cX9_put 18 = .ok (.iload_n 1, 1) := by decide +kernel
theorem dX9_put_19 : decode cX9_put 19 = .ok (.iaload, 1) := by decide +kernel
theorem dX9_put_20 : decode cX9_put 20 = .ok (.bipush (-9), 2) := by decide +kernel
theorem dX9_put_22 : decode cX9_put 22 = .ok (.if_icmp .ne 9, 3) := by decide +kernel
theorem dX9_put_25 : decode cX9_put 25 = .ok (.aload_n 0, 1) := by decide +kernel
theorem dX9_put_26 : decode cX9_put 26 = .ok (.iconst 1, 1) := by decide +kernel
theorem dX9_put_27 : decode cX9_put 27 = .ok (.invokevirtual 101, 3) := by decide +kernel
theorem dX9_put_30 : decode cX9_put 30 = .ok (.ireturn, 1) := by decide +kernel
theorem dX9_put_31 : decode cX9_put 31 = .ok (.iload_n 2, 1) := by decide +kernel
theorem dX9_put_32 : decode cX9_put 32 = .ok (.iconst 0, 1) := by decide +kernel
theorem dX9_put_33 : decode cX9_put 33 = .ok (.aload_n 0, 1) := by decide +kernel
theorem dX9_put_34 : decode cX9_put 34 = .ok (.getfield 13, 3) := by decide +kernel
theorem dX9_put_37 : decode cX9_put 37 = .ok (.iload_n 1, 1) := by decide +kernel
theorem dX9_put_38 : decode cX9_put 38 = .ok (.iaload, 1) := by decide +kernel
theorem dX9_put_39 : decode cX9_put 39 = .ok (.iconst 1, 1) := by decide +kernel
theorem dX9_put_40 : decode cX9_put 40 = .ok (.isub, 1) := by decide +kernel
theorem dX9_put_41 : decode cX9_put 41 = .ok (.invokestatic 77, 3) := by decide +kernel
theorem dX9_put_44 : decode cX9_put 44 = .ok (.ifCond .ne 9, 3) := by decide +kernel
theorem dX9_put_47 : decode cX9_put 47 = .ok (.aload_n 0, 1) := by decide +kernel
theorem dX9_put_48 : decode cX9_put 48 = .ok (.iconst 3, 1) := by decide +kernel
theorem dX9_put_49 : decode cX9_put 49 = .ok (.invokevirtual 101, 3) := by decide +kernel
theorem dX9_put_52 : decode cX9_put 52 = .ok (.ireturn, 1) := by decide +kernel
theorem dX9_put_53 : decode cX9_put 53 = .ok (.aload_n 0, 1) := by decide +kernel
theorem dX9_put_54 : decode cX9_put 54 = .ok (.getfield 16, 3) := by decide +kernel
theorem dX9_put_57 : decode cX9_put 57 = .ok (.bipush 60, 2) := by decide +kernel
theorem dX9_put_59 : decode cX9_put 59 = .ok (.iload_n 1, 1) := by decide +kernel
theorem dX9_put_60 : decode cX9_put 60 = .ok (.imul, 1) := by decide +kernel
theorem dX9_put_61 : decode cX9_put 61 = .ok (.iload_n 2, 1) := by decide +kernel
theorem dX9_put_62 : decode cX9_put 62 = .ok (.iadd, 1) := by decide +kernel
theorem dX9_put_63 : decode cX9_put 63 = .ok (.aload_n 0, 1) := by decide +kernel
theorem dX9_put_64 : decode cX9_put 64 = .ok (.getfield 9, 3) := by decide +kernel
theorem dX9_put_67 : decode cX9_put 67 = .ok (.iload_n 1, 1) := by decide +kernel
theorem dX9_put_68 : decode cX9_put 68 = .ok (.iaload, 1) := by decide +kernel
theorem dX9_put_69 : decode cX9_put 69 = .ok (.ifCond .ne 8, 3) := by decide +kernel
theorem dX9_put_72 : decode cX9_put 72 = .ok (.iload_n 3, 1) := by decide +kernel
theorem dX9_put_73 : decode cX9_put 73 = .ok (.i2b, 1) := by decide +kernel
theorem dX9_put_74 : decode cX9_put 74 = .ok (.goto 19, 3) := by decide +kernel
theorem dX9_put_77 : decode cX9_put 77 = .ok (.aload_n 0, 1) := by decide +kernel
theorem dX9_put_78 : decode cX9_put 78 = .ok (.getfield 9, 3) := by decide +kernel
theorem dX9_put_81 : decode cX9_put 81 = .ok (.iload_n 1, 1) := by decide +kernel
theorem dX9_put_82 : decode cX9_put 82 = .ok (.iaload, 1) := by decide +kernel
theorem dX9_put_83 : decode cX9_put 83 = .ok (.iconst 1, 1) := by decide +kernel
theorem dX9_put_84 : decode cX9_put 84 = .ok (.if_icmp .ne 8, 3) := by decide +kernel
theorem dX9_put_87 : decode cX9_put 87 = .ok (.iload_n 3, 1) := by decide +kernel
theorem dX9_put_88 : decode cX9_put 88 = .ok (.i2s, 1) := by decide +kernel
theorem dX9_put_89 : decode cX9_put 89 = .ok (.goto 4, 3) := by decide +kernel
theorem dX9_put_92 : decode cX9_put 92 = .ok (.iload_n 3, 1) := by decide +kernel
theorem dX9_put_93 : decode cX9_put 93 = .ok (.iastore, 1) := by decide +kernel
theorem dX9_put_94 : decode cX9_put 94 = .ok (.iconst 1, 1) := by decide +kernel
theorem dX9_put_95 : decode cX9_put 95 = .ok (.ireturn, 1) := by decide +kernel
set_option maxRecDepth 20000 in
theorem ggX9_cell_X9_isSheet : GoodIn wsX9_cell wsX9_isSheet := goodIn_r _ [9, 10, 11, 8, 12] (by decide +kernel) (by decide +kernel)
set_option maxRecDepth 20000 in
theorem gX9_cell_X9_isSheet : GoodIn wsX9_cell (va_wsS RX9 90 yX9_isSheet wsX9_isSheet) := goodIn_app (goodIn_of _ (by decide +kernel)) ggX9_cell_X9_isSheet
set_option maxRecDepth 20000 in
theorem ggX9_cell_X9_isSort : GoodIn wsX9_cell wsX9_isSort := goodIn_r _ [15, 10, 11, 8, 12] (by decide +kernel) (by decide +kernel)
set_option maxRecDepth 20000 in
theorem gX9_cell_X9_isSort : GoodIn wsX9_cell (va_wsS RX9 94 yX9_isSort wsX9_isSort) := goodIn_app (goodIn_of _ (by decide +kernel)) ggX9_cell_X9_isSort
set_option maxRecDepth 20000 in
theorem ggX9_cell_X9_lost : GoodIn wsX9_cell wsX9_lost := goodIn_r _ [19, 1, 2, 20, 21, 22, 23, 24, 25, 26, 27, 28, 29, 30, 31, 32, 33, 34, 35, 36, 37, 38, 39, 40, 41, 42, 43, 44, 45, 46, 47, 48, 49, 50] (by decide +kernel) (by decide +kernel)
set_option maxRecDepth 20000 in
theorem gX9_cell_X9_lost : GoodIn wsX9_cell (wsV RX9 172 RX9 yX9_lost wsX9_lost) := goodIn_app (goodIn_of _ (by decide +kernel)) ggX9_cell_X9_lost
set_option maxRecDepth 20000 in
theorem ggX9_cell_X9_within : GoodIn wsX9_cell wsX9_within := goodIn_r _ [12] (by decide +kernel) (by decide +kernel)
set_option maxRecDepth 20000 in
theorem gX9_cell_X9_within : GoodIn wsX9_cell (va_wsS RX9 77 yX9_within wsX9_within) := goodIn_app (goodIn_of _ (by decide +kernel)) ggX9_cell_X9_within
theorem dX9_cell_0 : decode cX9_cell 0 = .ok (.aload_n 0, 1) := by decide +kernel
theorem dX9_cell_1 : decode cX9_cell 1 = .ok (.iconst 0, 1) := by decide +kernel
theorem dX9_cell_2 : decode cX9_cell 2 = .ok (.putfield 71, 3) := by decide +kernel
theorem dX9_cell_5 : decode cX9_cell 5 = .ok (.iload_n 1, 1) := by decide +kernel
theorem dX9_cell_6 : decode cX9_cell 6 = .ok (.invokestatic 90, 3) := by decide +kernel
theorem dX9_cell_9 : decode cX9_cell 9 = .ok (.ifCond .eq 10, 3) := by decide +kernel
theorem dX9_cell_12 : decode cX9_cell 12 = .ok (.iload_n 3, 1) := by decide +kernel
theorem dX9_cell_13 : decode cX9_cell 13 = .ok (.invokestatic 94, 3) := by decide +kernel
theorem dX9_cell_16 : decode cX9_cell 16 = .ok (.ifCond .ne 7, 3) := by decide +kernel
theorem dX9_cell_19 : decode cX9_cell 19 = .ok (.ldc2_w 75, 3) := by decide +kernel
theorem dX9_cell_22 : decode cX9_cell 22 = .ok (.lreturn, 1) := by decide +kernel
theorem dX9_cell_23 : decode cX9_cell 23 = .ok (.aload_n 0, 1) := by decide +kernel
theorem dX9_cell_24 : decode cX9_cell 24 = .ok (.getfield 9, 3) := by decide +kernel
theorem dX9_cell_27 : decode cX9_cell 27 = .ok (.iload_n 1, 1) := by decide +kernel
theorem dX9_cell_28 : decode cX9_cell 28 = .ok (.iaload, 1) := by decide +kernel
theorem dX9_cell_29 : decode cX9_cell 29 = .ok (.bipush (-9), 2) := by decide +kernel
theorem dX9_cell_31 : decode cX9_cell 31 = .ok (.if_icmp .eq 19, 3) := by decide +kernel
theorem dX9_cell_34 : decode cX9_cell 34 = .ok (.aload_n 0, 1) := by decide +kernel
theorem dX9_cell_35 : decode cX9_cell 35 = .ok (.getfield 9, 3) := by decide +kernel
theorem dX9_cell_38 : decode cX9_cell 38 = .ok (.iload_n 1, 1) := by decide +kernel
theorem dX9_cell_39 : decode cX9_cell 39 = .ok (.iaload, 1) := by decide +kernel
theorem dX9_cell_40 : decode cX9_cell 40 = .ok (.iload_n 3, 1) := by decide +kernel
theorem dX9_cell_41 : decode cX9_cell 41 = .ok (.if_icmp .eq 9, 3) := by decide +kernel
theorem dX9_cell_44 : decode cX9_cell 44 = .ok (.aload_n 0, 1) := by decide +kernel
theorem dX9_cell_45 : decode cX9_cell 45 = .ok (.iconst 2, 1) := by decide +kernel
theorem dX9_cell_46 : decode cX9_cell 46 = .ok (.invokevirtual 172, 3) := by decide +kernel
theorem dX9_cell_49 : decode cX9_cell 49 = .ok (.lreturn, 1) := by decide +kernel
theorem dX9_cell_50 : decode cX9_cell 50 = .ok (.aload_n 0, 1) := by decide +kernel
theorem dX9_cell_51 : decode cX9_cell 51 = .ok (.getfield 9, 3) := by decide +kernel
theorem dX9_cell_54 : decode cX9_cell 54 = .ok (.iload_n 1, 1) := by decide +kernel
theorem dX9_cell_55 : decode cX9_cell 55 = .ok (.iaload, 1) := by decide +kernel
theorem dX9_cell_56 : decode cX9_cell 56 = .ok (.bipush (-9), 2) := by decide +kernel
theorem dX9_cell_58 : decode cX9_cell 58 = .ok (.if_icmp .ne 9, 3) := by decide +kernel
theorem dX9_cell_61 : decode cX9_cell 61 = .ok (.aload_n 0, 1) := by decide +kernel
theorem dX9_cell_62 : decode cX9_cell 62 = .ok (.iconst 1, 1) := by decide +kernel
theorem dX9_cell_63 : decode cX9_cell 63 = .ok (.invokevirtual 172, 3) := by decide +kernel
theorem dX9_cell_66 : decode cX9_cell 66 = .ok (.lreturn, 1) := by decide +kernel
theorem dX9_cell_67 : decode cX9_cell 67 = .ok (.iload_n 2, 1) := by decide +kernel
theorem dX9_cell_68 : decode cX9_cell 68 = .ok (.iconst 0, 1) := by decide +kernel
theorem dX9_cell_69 : decode cX9_cell 69 = .ok (.aload_n 0, 1) := by decide +kernel
theorem dX9_cell_70 : decode cX9_cell 70 = .ok (.getfield 13, 3) := by decide +kernel
theorem dX9_cell_73 : decode cX9_cell 73 = .ok (.iload_n 1, 1) := by decide +kernel
theorem dX9_cell_74 : decode cX9_cell 74 = .ok (.iaload, 1) := by decide +kernel
theorem dX9_cell_75 : decode cX9_cell 75 = .ok (.iconst 1, 1) := by decide +kernel
theorem dX9_cell_76 : decode cX9_cell 76 = .ok (.isub, 1) := by decide +kernel
theorem dX9_cell_77 : decode cX9_cell 77 = .ok (.invokestatic 77, 3) := by decide +kernel
theorem dX9_cell_80 : decode cX9_cell 80 = .ok (.ifCond .ne 9, 3) := by decide +kernel
theorem dX9_cell_83 : decode cX9_cell 83 = .ok (.aload_n 0, 1) := by decide +kernel
theorem dX9_cell_84 : decode cX9_cell 84 = .ok (.iconst 3, 1) := by decide +kernel
theorem dX9_cell_85 : decode cX9_cell 85 = .ok (.invokevirtual 172, 3) := by decide +kernel
theorem dX9_cell_88 : decode cX9_cell 88 = .ok (.lreturn, 1) := by decide +kernel
theorem dX9_cell_89 : decode cX9_cell 89 = .ok (.aload_n 0, 1) := by decide +kernel
theorem dX9_cell_90 : decode cX9_cell 90 = .ok (.getfield 16, 3) := by decide +kernel
theorem dX9_cell_93 : decode cX9_cell 93 = .ok (.bipush 60, 2) := by decide +kernel
theorem dX9_cell_95 : decode cX9_cell 95 = .ok (.iload_n 1, 1) := by decide +kernel
theorem dX9_cell_96 : decode cX9_cell 96 = .ok (.imul, 1) := by decide +kernel
theorem dX9_cell_97 : decode cX9_cell 97 = .ok (.iload_n 2, 1) := by decide +kernel
theorem dX9_cell_98 : decode cX9_cell 98 = .ok (.iadd, 1) := by decide +kernel
theorem dX9_cell_99 : decode cX9_cell 99 = .ok (.iaload, 1) := by decide +kernel
theorem dX9_cell_100 : decode cX9_cell 100 = .ok (.i2l, 1) := by decide +kernel
theorem dX9_cell_101 : decode cX9_cell 101 = .ok (.lreturn, 1) := by decide +kernel
set_option maxRecDepth 20000 in
theorem ggX9_copy_X9_isSheet : GoodIn wsX9_copy wsX9_isSheet := goodIn_r _ [8, 9, 10, 7, 11] (by decide +kernel) (by decide +kernel)
set_option maxRecDepth 20000 in
theorem gX9_copy_X9_isSheet : GoodIn wsX9_copy (va_wsS RX9 90 yX9_isSheet wsX9_isSheet) := goodIn_app (goodIn_of _ (by decide +kernel)) ggX9_copy_X9_isSheet
set_option maxRecDepth 20000 in
theorem ggX9_copy_X9_fails : GoodIn wsX9_copy wsX9_fails := goodIn_r _ [15, 1, 16, 17, 18, 19, 20, 21, 22, 23, 24, 25, 26, 27, 28, 29, 30, 31, 32, 33, 34, 35, 36, 37, 38, 39, 40, 41, 42, 43, 44, 45, 46] (by decide +kernel) (by decide +kernel)
set_option maxRecDepth 20000 in
theorem gX9_copy_X9_fails : GoodIn wsX9_copy (wsV RX9 101 RX9 yX9_fails wsX9_fails) := goodIn_app (goodIn_of _ (by decide +kernel)) ggX9_copy_X9_fails
theorem dX9_copy_0 : decode cX9_copy 0 = .ok (.aload_n 0, 1) := by decide +kernel
theorem dX9_copy_1 : decode cX9_copy 1 = .ok (.iconst 0, 1) := by decide +kernel
theorem dX9_copy_2 : decode cX9_copy 2 = .ok (.putfield 71, 3) := by decide +kernel
theorem dX9_copy_5 : decode cX9_copy 5 = .ok (.iload_n 1, 1) := by decide +kernel
theorem dX9_copy_6 : decode cX9_copy 6 = .ok (.invokestatic 90, 3) := by decide +kernel
theorem dX9_copy_9 : decode cX9_copy 9 = .ok (.ifCond .eq 10, 3) := by decide +kernel
theorem dX9_copy_12 : decode cX9_copy 12 = .ok (.iload_n 3, 1) := by decide +kernel
theorem dX9_copy_13 : decode cX9_copy 13 = .ok (.invokestatic 90, 3) := by decide +kernel
theorem dX9_copy_16 : decode cX9_copy 16 = .ok (.ifCond .ne 5, 3) := by decide +kernel
theorem dX9_copy_19 : decode cX9_copy 19 = .ok (.iconst (-1), 1) := by decide +kernel
theorem dX9_copy_20 : decode cX9_copy 20 = .ok (.ireturn, 1) := by decide +kernel
theorem dX9_copy_21 : decode cX9_copy 21 = .ok (.aload_n 0, 1) := by decide +kernel
theorem dX9_copy_22 : decode cX9_copy 22 = .ok (.getfield 9, 3) := by decide +kernel
theorem dX9_copy_25 : decode cX9_copy 25 = .ok (.iload_n 1, 1) := by decide +kernel
theorem dX9_copy_26 : decode cX9_copy 26 = .ok (.iaload, 1) := by decide +kernel
theorem dX9_copy_27 : decode cX9_copy 27 = .ok (.bipush (-9), 2) := by decide +kernel
theorem dX9_copy_29 : decode cX9_copy 29 = .ok (.if_icmp .eq 14, 3) := by decide +kernel
theorem dX9_copy_32 : decode cX9_copy 32 = .ok (.aload_n 0, 1) := by decide +kernel
theorem dX9_copy_33 : decode cX9_copy 33 = .ok (.getfield 9, 3) := by decide +kernel
theorem dX9_copy_36 : decode cX9_copy 36 = .ok (.iload_n 3, 1) := by decide +kernel
theorem dX9_copy_37 : decode cX9_copy 37 = .ok (.iaload, 1) := by decide +kernel
theorem dX9_copy_38 : decode cX9_copy 38 = .ok (.bipush (-9), 2) := by decide +kernel
theorem dX9_copy_40 : decode cX9_copy 40 = .ok (.if_icmp .ne 9, 3) := by decide +kernel
theorem dX9_copy_43 : decode cX9_copy 43 = .ok (.aload_n 0, 1) := by decide +kernel
theorem dX9_copy_44 : decode cX9_copy 44 = .ok (.iconst 1, 1) := by decide +kernel
theorem dX9_copy_45 : decode cX9_copy 45 = .ok (.invokevirtual 101, 3) := by decide +kernel
theorem dX9_copy_48 : decode cX9_copy 48 = .ok (.ireturn, 1) := by decide +kernel
theorem dX9_copy_49 : decode cX9_copy 49 = .ok (.aload_n 0, 1) := by decide +kernel
theorem dX9_copy_50 : decode cX9_copy 50 = .ok (.getfield 9, 3) := by decide +kernel
theorem dX9_copy_53 : decode cX9_copy 53 = .ok (.iload_n 1, 1) := by decide +kernel
theorem dX9_copy_54 : decode cX9_copy 54 = .ok (.iaload, 1) := by decide +kernel
theorem dX9_copy_55 : decode cX9_copy 55 = .ok (.aload_n 0, 1) := by decide +kernel
theorem dX9_copy_56 : decode cX9_copy 56 = .ok (.getfield 9, 3) := by decide +kernel
theorem dX9_copy_59 : decode cX9_copy 59 = .ok (.iload_n 3, 1) := by decide +kernel
theorem dX9_copy_60 : decode cX9_copy 60 = .ok (.iaload, 1) := by decide +kernel
theorem dX9_copy_61 : decode cX9_copy 61 = .ok (.if_icmp .eq 9, 3) := by decide +kernel
theorem dX9_copy_64 : decode cX9_copy 64 = .ok (.aload_n 0, 1) := by decide +kernel
theorem dX9_copy_65 : decode cX9_copy 65 = .ok (.iconst 2, 1) := by decide +kernel
theorem dX9_copy_66 : decode cX9_copy 66 = .ok (.invokevirtual 101, 3) := by decide +kernel
theorem dX9_copy_69 : decode cX9_copy 69 = .ok (.ireturn, 1) := by decide +kernel
theorem dX9_copy_70 : decode cX9_copy 70 = .ok (.iload_n 2, 1) := by decide +kernel
theorem dX9_copy_71 : decode cX9_copy 71 = .ok (.ifCond .lt 38, 3) := by decide +kernel
theorem dX9_copy_74 : decode cX9_copy 74 = .ok (.iload 4, 2) := by decide +kernel
theorem dX9_copy_76 : decode cX9_copy 76 = .ok (.ifCond .lt 33, 3) := by decide +kernel
theorem dX9_copy_79 : decode cX9_copy 79 = .ok (.iload 5, 2) := by decide +kernel
theorem dX9_copy_81 : decode cX9_copy 81 = .ok (.ifCond .lt 28, 3) := by decide +kernel
theorem dX9_copy_84 : decode cX9_copy 84 = .ok (.iload_n 2, 1) := by decide +kernel
theorem dX9_copy_85 : decode cX9_copy 85 = .ok (.aload_n 0, 1) := by decide +kernel
theorem dX9_copy_86 : decode cX9_copy 86 = .ok (.getfield 13, 3) := by decide +kernel
theorem dX9_copy_89 : decode cX9_copy 89 = .ok (.iload_n 1, 1) := by decide +kernel
theorem dX9_copy_90 : decode cX9_copy 90 = .ok (.iaload, 1) := by decide +kernel
theorem dX9_copy_91 : decode cX9_copy 91 = .ok (.if_icmp .gt 18, 3) := by decide +kernel
theorem dX9_copy_94 : decode cX9_copy 94 = .ok (.iload 4, 2) := by decide +kernel
theorem dX9_copy_96 : decode cX9_copy 96 = .ok (.aload_n 0, 1) := by decide +kernel
theorem dX9_copy_97 : decode cX9_copy 97 = .ok (.getfield 13, 3) := by decide +kernel
theorem dX9_copy_100 : decode cX9_copy 100 = .ok (.iload_n 3, 1) := by decide +kernel
theorem dX9_copy_101 : decode cX9_copy 101 = .ok (.iaload, 1) := by decide +kernel
theorem dX9_copy_102 : decode cX9_copy 102 = .ok (.if_icmp .gt 7, 3) := by decide +kernel
theorem dX9_copy_105 : decode cX9_copy 105 = .ok (.iconst 1, 1) := by decide +kernel
theorem dX9_copy_106 : decode cX9_copy 106 = .ok (.goto 4, 3) := by decide +kernel
theorem dX9_copy_109 : decode cX9_copy 109 = .ok (.iconst 0, 1) := by decide +kernel
theorem dX9_copy_110 : decode cX9_copy 110 = .ok (.istore 6, 2) := by decide +kernel
theorem dX9_copy_112 : decode cX9_copy 112 = .ok (.iload 6, 2) := by decide +kernel
theorem dX9_copy_114 : decode cX9_copy 114 = .ok (.ifCond .eq 30, 3) := by decide +kernel
theorem dX9_copy_117 : decode cX9_copy 117 = .ok (.iload 5, 2) := by decide +kernel
theorem dX9_copy_119 : decode cX9_copy 119 = .ok (.aload_n 0, 1) := by decide +kernel
theorem dX9_copy_120 : decode cX9_copy 120 = .ok (.getfield 13, 3) := by decide +kernel
theorem dX9_copy_123 : decode cX9_copy 123 = .ok (.iload_n 1, 1) := by decide +kernel
theorem dX9_copy_124 : decode cX9_copy 124 = .ok (.iaload, 1) := by decide +kernel
theorem dX9_copy_125 : decode cX9_copy 125 = .ok (.iload_n 2, 1) := by decide +kernel
theorem dX9_copy_126 : decode cX9_copy 126 = .ok (.isub, 1) := by decide +kernel
theorem dX9_copy_127 : decode cX9_copy 127 = .ok (.if_icmp .gt 17, 3) := by decide +kernel
theorem dX9_copy_130 : decode cX9_copy 130 = .ok (.iload 5, 2) := by decide +kernel
theorem dX9_copy_132 : decode cX9_copy 132 = .ok (.aload_n 0, 1) := by decide +kernel
theorem dX9_copy_133 : decode cX9_copy 133 = .ok (.getfield 13, 3) := by decide +kernel
theorem dX9_copy_136 : decode cX9_copy 136 = .ok (.iload_n 3, 1) := by decide +kernel
theorem dX9_copy_137 : decode cX9_copy 137 = .ok (.iaload, 1) := by decide +kernel
theorem dX9_copy_138 : decode cX9_copy 138 = .ok (.iload 4, 2) := by decide +kernel
theorem dX9_copy_140 : decode cX9_copy 140 = .ok (.isub, 1) := by decide +kernel
theorem dX9_copy_141 : decode cX9_copy 141 = .ok (.if_icmp .le 9, 3) := by decide +kernel
theorem dX9_copy_144 : decode cX9_copy 144 = .ok (.aload_n 0, 1) := by decide +kernel
theorem dX9_copy_145 : decode cX9_copy 145 = .ok (.iconst 3, 1) := by decide +kernel
theorem dX9_copy_146 : decode cX9_copy 146 = .ok (.invokevirtual 101, 3) := by decide +kernel
theorem dX9_copy_149 : decode cX9_copy 149 = .ok (.ireturn, 1) := by decide +kernel
theorem dX9_copy_150 : decode cX9_copy 150 = .ok (.iload_n 2, 1) := by decide +kernel
theorem dX9_copy_151 : decode cX9_copy 151 = .ok (.iload 4, 2) := by decide +kernel
theorem dX9_copy_153 : decode cX9_copy 153 = .ok (.if_icmp .ge 7, 3) := by decide +kernel
theorem dX9_copy_156 : decode cX9_copy 156 = .ok (.iconst 1, 1) := by decide +kernel
theorem dX9_copy_157 : decode cX9_copy 157 = .ok (.goto 4, 3) := by decide +kernel
theorem dX9_copy_160 : decode cX9_copy 160 = .ok (.iconst 0, 1) := by decide +kernel
theorem dX9_copy_161 : decode cX9_copy 161 = .ok (.istore 7, 2) := by decide +kernel
theorem dX9_copy_163 : decode cX9_copy 163 = .ok (.iconst 0, 1) := by decide +kernel
theorem dX9_copy_164 : decode cX9_copy 164 = .ok (.istore 8, 2) := by decide +kernel
theorem dX9_copy_166 : decode cX9_copy 166 = .ok (.iload 8, 2) := by decide +kernel
theorem dX9_copy_168 : decode cX9_copy 168 = .ok (.iload 5, 2) := by decide +kernel
theorem dX9_copy_170 : decode cX9_copy 170 = .ok (.if_icmp .ge 57, 3) := by decide +kernel
theorem dX9_copy_173 : decode cX9_copy 173 = .ok (.iload 7, 2) := by decide +kernel
theorem dX9_copy_175 : decode cX9_copy 175 = .ok (.ifCond .eq 13, 3) := by decide +kernel
theorem dX9_copy_178 : decode cX9_copy 178 = .ok (.iload 5, 2) := by decide +kernel
theorem dX9_copy_180 : decode cX9_copy 180 = .ok (.iconst 1, 1) := by decide +kernel
theorem dX9_copy_181 : decode cX9_copy 181 = .ok (.isub, 1) := by decide +kernel
theorem dX9_copy_182 : decode cX9_copy 182 = .ok (.iload 8, 2) := by decide +kernel
theorem dX9_copy_184 : decode cX9_copy 184 = .ok (.isub, 1) := by decide +kernel
theorem dX9_copy_185 : decode cX9_copy 185 = .ok (.goto 5, 3) := by decide +kernel
theorem dX9_copy_188 : decode cX9_copy 188 = .ok (.iload 8, 2) := by decide +kernel
theorem dX9_copy_190 : decode cX9_copy 190 = .ok (.istore 9, 2) := by decide +kernel
theorem dX9_copy_192 : decode cX9_copy 192 = .ok (.aload_n 0, 1) := by decide +kernel
theorem dX9_copy_193 : decode cX9_copy 193 = .ok (.getfield 16, 3) := by decide +kernel
theorem dX9_copy_196 : decode cX9_copy 196 = .ok (.bipush 60, 2) := by decide +kernel
theorem dX9_copy_198 : decode cX9_copy 198 = .ok (.iload_n 3, 1) := by decide +kernel
theorem dX9_copy_199 : decode cX9_copy 199 = .ok (.imul, 1) := by decide +kernel
theorem dX9_copy_200 : decode cX9_copy 200 = .ok (.iload 4, 2) := by decide +kernel
theorem dX9_copy_202 : decode cX9_copy 202 = .ok (.iadd, 1) := by decide +kernel
theorem dX9_copy_203 : decode cX9_copy 203 = .ok (.iload 9, 2) := by decide +kernel
theorem dX9_copy_205 : decode cX9_copy 205 = .ok (.iadd, 1) := by decide +kernel
theorem dX9_copy_206 : decode cX9_copy 206 = .ok (.aload_n 0, 1) := by decide +kernel
theorem dX9_copy_207 : decode cX9_copy 207 = .ok (.getfield 16, 3) := by decide +kernel
theorem dX9_copy_210 : decode cX9_copy 210 = .ok (.bipush 60, 2) := by decide +kernel
theorem dX9_copy_212 : decode cX9_copy 212 = .ok (.iload_n 1, 1) := by decide +kernel
theorem dX9_copy_213 : decode cX9_copy 213 = .ok (.imul, 1) := by decide +kernel
theorem dX9_copy_214 : decode cX9_copy 214 = .ok (.iload_n 2, 1) := by decide +kernel
theorem dX9_copy_215 : decode cX9_copy 215 = .ok (.iadd, 1) := by decide +kernel
theorem dX9_copy_216 : decode cX9_copy 216 = .ok (.iload 9, 2) := by decide +kernel
theorem dX9_copy_218 : decode cX9_copy 218 = .ok (.iadd, 1) := by decide +kernel
theorem dX9_copy_219 : decode cX9_copy 219 = .ok (.iaload, 1) := by decide +kernel
theorem dX9_copy_220 : decode cX9_copy 220 = .ok (.iastore, 1) := by decide +kernel
theorem dX9_copy_221 : decode cX9_copy 221 = .ok (.iinc 8 1, 3) := by decide +kernel
theorem dX9_copy_224 : decode cX9_copy 224 = .ok (.goto (-58), 3) := by decide +kernel
theorem dX9_copy_227 : decode cX9_copy 227 = .ok (.iload 5, 2) := by decide +kernel
theorem dX9_copy_229 : decode cX9_copy 229 = .ok (.ireturn, 1) := by decide +kernel
theorem dX9_leaves_0 : decode cX9_leaves 0 = .ok (.aload_n 0, 1) := by decide +kernel
theorem dX9_leaves_1 : decode cX9_leaves 1 = .ok (.bipush 31, 2) := by decide +kernel
theorem dX9_leaves_3 : decode cX9_leaves 3 = .ok (.aload_n 0, 1) := by decide +kernel
theorem dX9_leaves_4 : decode cX9_leaves 4 = .ok (.getfield 236, 3) := by decide +kernel
theorem dX9_leaves_7 : decode cX9_leaves 7 = .ok (.imul, 1) := by decide +kernel
theorem dX9_leaves_8 : decode cX9_leaves 8 = .ok (.iload_n 1, 1) := by decide +kernel
theorem dX9_leaves_9 : decode cX9_leaves 9 = .ok (.iadd, 1) := by decide +kernel
theorem dX9_leaves_10 : decode cX9_leaves 10 = .ok (.putfield 236, 3) := by decide +kernel
theorem dX9_leaves_13 : decode cX9_leaves 13 = .ok (.return_, 1) := by decide +kernel
set_option maxRecDepth 20000 in
theorem ggX9_tell_X9_isHelper : GoodIn wsX9_tell wsX9_isHelper := goodIn_r _ [7, 8, 14, 15, 16, 17, 18, 19, 20, 21, 22, 23, 24, 25, 26, 27, 28, 29, 30, 31, 32, 33, 34, 35, 36, 37, 38, 39, 40, 41, 42, 43, 44] (by decide +kernel) (by decide +kernel)
set_option maxRecDepth 20000 in
theorem gX9_tell_X9_isHelper : GoodIn wsX9_tell (wsV RX9 133 RX9 yX9_isHelper wsX9_isHelper) := goodIn_app (goodIn_of _ (by decide +kernel)) ggX9_tell_X9_isHelper
set_option maxRecDepth 20000 in
theorem ggX9_tell_X9_leaves : GoodIn wsX9_tell wsX9_leaves := goodIn_r _ [12, 13, 14, 15, 16, 17, 18, 19, 20, 21, 22, 23, 24, 25, 26, 27, 28, 29, 30, 31, 32, 33, 34, 35, 36, 37, 38, 39, 40, 41, 42, 43, 44] (by decide +kernel) (by decide +kernel)
set_option maxRecDepth 20000 in
theorem gX9_tell_X9_leaves : GoodIn wsX9_tell (wsV RX9 239 RX9 yX9_leaves wsX9_leaves) := goodIn_app (goodIn_of _ (by decide +kernel)) ggX9_tell_X9_leaves
theorem dX9_tell_0 : decode cX9_tell 0 = .ok (.aload_n 0, 1) := by decide +kernel
theorem dX9_tell_1 : decode cX9_tell 1 = .ok (.iload_n 1, 1) := by decide +kernel
theorem dX9_tell_2 : decode cX9_tell 2 = .ok (.invokevirtual 133, 3) := by decide +kernel
theorem dX9_tell_5 : decode cX9_tell 5 = .ok (.ifCond .ne 5, 3) := by decide +kernel
theorem dX9_tell_8 : decode cX9_tell 8 = .ok (.iconst (-1), 1) := by decide +kernel
theorem dX9_tell_9 : decode cX9_tell 9 = .ok (.ireturn, 1) := by decide +kernel
theorem dX9_tell_10 : decode cX9_tell 10 = .ok (.aload_n 0, 1) := by decide +kernel
theorem dX9_tell_11 : decode cX9_tell 11 = .ok (.getfield 32, 3) := by decide +kernel
theorem dX9_tell_14 : decode cX9_tell 14 = .ok (.iload_n 1, 1) := by decide +kernel
theorem dX9_tell_15 : decode cX9_tell 15 = .ok (.iaload, 1) := by decide +kernel
theorem dX9_tell_16 : decode cX9_tell 16 = .ok (.istore_n 2, 1) := by decide +kernel
theorem dX9_tell_17 : decode cX9_tell 17 = .ok (.aload_n 0, 1) := by decide +kernel
theorem dX9_tell_18 : decode cX9_tell 18 = .ok (.getfield 29, 3) := by decide +kernel
theorem dX9_tell_21 : decode cX9_tell 21 = .ok (.iload_n 1, 1) := by decide +kernel
theorem dX9_tell_22 : decode cX9_tell 22 = .ok (.iaload, 1) := by decide +kernel
theorem dX9_tell_23 : decode cX9_tell 23 = .ok (.lookupswitch 67 #[(1, 25), (2, 40)], 25) := by decide +kernel
theorem dX9_tell_48 : decode cX9_tell 48 = .ok (.aload_n 0, 1) := by decide +kernel
theorem dX9_tell_49 : decode cX9_tell 49 = .ok (.iconst 2, 1) := by decide +kernel
theorem dX9_tell_50 : decode cX9_tell 50 = .ok (.invokevirtual 239, 3) := by decide +kernel
theorem dX9_tell_53 : decode cX9_tell 53 = .ok (.aload_n 0, 1) := by decide +kernel
theorem dX9_tell_54 : decode cX9_tell 54 = .ok (.iconst 1, 1) := by decide +kernel
theorem dX9_tell_55 : decode cX9_tell 55 = .ok (.invokevirtual 239, 3) := by decide +kernel
theorem dX9_tell_58 : decode cX9_tell 58 = .ok (.iload_n 2, 1) := by decide +kernel
theorem dX9_tell_59 : decode cX9_tell 59 = .ok (.bipush 100, 2) := by decide +kernel
theorem dX9_tell_61 : decode cX9_tell 61 = .ok (.iadd, 1) := by decide +kernel
theorem dX9_tell_62 : decode cX9_tell 62 = .ok (.ireturn, 1) := by decide +kernel
theorem dX9_tell_63 : decode cX9_tell 63 = .ok (.aload_n 0, 1) := by decide +kernel
theorem dX9_tell_64 : decode cX9_tell 64 = .ok (.iconst 3, 1) := by decide +kernel
theorem dX9_tell_65 : decode cX9_tell 65 = .ok (.invokevirtual 239, 3) := by decide +kernel
theorem dX9_tell_68 : decode cX9_tell 68 = .ok (.aload_n 0, 1) := by decide +kernel
theorem dX9_tell_69 : decode cX9_tell 69 = .ok (.iconst 2, 1) := by decide +kernel
theorem dX9_tell_70 : decode cX9_tell 70 = .ok (.invokevirtual 239, 3) := by decide +kernel
theorem dX9_tell_73 : decode cX9_tell 73 = .ok (.aload_n 0, 1) := by decide +kernel
theorem dX9_tell_74 : decode cX9_tell 74 = .ok (.iconst 1, 1) := by decide +kernel
theorem dX9_tell_75 : decode cX9_tell 75 = .ok (.invokevirtual 239, 3) := by decide +kernel
theorem dX9_tell_78 : decode cX9_tell 78 = .ok (.aload_n 0, 1) := by decide +kernel
theorem dX9_tell_79 : decode cX9_tell 79 = .ok (.iconst 1, 1) := by decide +kernel
theorem dX9_tell_80 : decode cX9_tell 80 = .ok (.invokevirtual 239, 3) := by decide +kernel
theorem dX9_tell_83 : decode cX9_tell 83 = .ok (.iconst 2, 1) := by decide +kernel
theorem dX9_tell_84 : decode cX9_tell 84 = .ok (.iload_n 2, 1) := by decide +kernel
theorem dX9_tell_85 : decode cX9_tell 85 = .ok (.imul, 1) := by decide +kernel
theorem dX9_tell_86 : decode cX9_tell 86 = .ok (.bipush 100, 2) := by decide +kernel
theorem dX9_tell_88 : decode cX9_tell 88 = .ok (.iadd, 1) := by decide +kernel
theorem dX9_tell_89 : decode cX9_tell 89 = .ok (.ireturn, 1) := by decide +kernel
theorem dX9_tell_90 : decode cX9_tell 90 = .ok (.aload_n 0, 1) := by decide +kernel
theorem dX9_tell_91 : decode cX9_tell 91 = .ok (.iconst 1, 1) := by decide +kernel
theorem dX9_tell_92 : decode cX9_tell 92 = .ok (.invokevirtual 239, 3) := by decide +kernel
theorem dX9_tell_95 : decode cX9_tell 95 = .ok (.iload_n 2, 1) := by decide +kernel
theorem dX9_tell_96 : decode cX9_tell 96 = .ok (.ireturn, 1) := by decide +kernel
set_option maxRecDepth 20000 in
theorem ggX9_cheer_X9_isHelper : GoodIn wsX9_cheer wsX9_isHelper := goodIn_r _ [6, 7, 13, 14, 15, 16, 17, 18, 19, 20, 21, 22, 23, 24, 25, 26, 27, 28, 29, 30, 31, 32, 33, 34, 35, 36, 37, 38, 39, 40, 41, 42, 43] (by decide +kernel) (by decide +kernel)
set_option maxRecDepth 20000 in
theorem gX9_cheer_X9_isHelper : GoodIn wsX9_cheer (wsV RX9 133 RX9 yX9_isHelper wsX9_isHelper) := goodIn_app (goodIn_of _ (by decide +kernel)) ggX9_cheer_X9_isHelper
set_option maxRecDepth 20000 in
theorem ggX9_cheer_X9_leaves : GoodIn wsX9_cheer wsX9_leaves := goodIn_r _ [11, 12, 13, 14, 15, 16, 17, 18, 19, 20, 21, 22, 23, 24, 25, 26, 27, 28, 29, 30, 31, 32, 33, 34, 35, 36, 37, 38, 39, 40, 41, 42, 43] (by decide +kernel) (by decide +kernel)
set_option maxRecDepth 20000 in
theorem gX9_cheer_X9_leaves : GoodIn wsX9_cheer (wsV RX9 239 RX9 yX9_leaves wsX9_leaves) := goodIn_app (goodIn_of _ (by decide +kernel)) ggX9_cheer_X9_leaves
theorem dX9_cheer_0 : decode cX9_cheer 0 = .ok (.aload_n 0, 1) := by decide +kernel
theorem dX9_cheer_1 : decode cX9_cheer 1 = .ok (.iload_n 1, 1) := by decide +kernel
theorem dX9_cheer_2 : decode cX9_cheer 2 = .ok (.invokevirtual 133, 3) := by decide +kernel
theorem dX9_cheer_5 : decode cX9_cheer 5 = .ok (.ifCond .ne 5, 3) := by decide +kernel
theorem dX9_cheer_8 : decode cX9_cheer 8 = .ok (.iconst (-1), 1) := by decide +kernel
theorem dX9_cheer_9 : decode cX9_cheer 9 = .ok (.ireturn, 1) := by decide +kernel
theorem dX9_cheer_10 : decode cX9_cheer 10 = .ok (.aload_n 0, 1) := by decide +kernel
theorem dX9_cheer_11 : decode cX9_cheer 11 = .ok (.aload_n 0, 1) := by decide +kernel
theorem dX9_cheer_12 : decode cX9_cheer 12 = .ok (.getfield 29, 3) := by decide +kernel
theorem dX9_cheer_15 : decode cX9_cheer 15 = .ok (.iload_n 1, 1) := by decide +kernel
theorem dX9_cheer_16 : decode cX9_cheer 16 = .ok (.iaload, 1) := by decide +kernel
theorem dX9_cheer_17 : decode cX9_cheer 17 = .ok (.iconst 2, 1) := by decide +kernel
theorem dX9_cheer_18 : decode cX9_cheer 18 = .ok (.if_icmp .ne 7, 3) := by decide +kernel
theorem dX9_cheer_21 : decode cX9_cheer 21 = .ok (.iconst 5, 1) := by decide +kernel
theorem dX9_cheer_22 : decode cX9_cheer 22 = .ok (.goto 4, 3) := by decide +kernel
theorem dX9_cheer_25 : decode cX9_cheer 25 = .ok (.iconst 4, 1) := by decide +kernel
theorem dX9_cheer_26 : decode cX9_cheer 26 = .ok (.invokevirtual 239, 3) := by decide +kernel
theorem dX9_cheer_29 : decode cX9_cheer 29 = .ok (.aload_n 0, 1) := by decide +kernel
theorem dX9_cheer_30 : decode cX9_cheer 30 = .ok (.getfield 29, 3) := by decide +kernel
theorem dX9_cheer_33 : decode cX9_cheer 33 = .ok (.iload_n 1, 1) := by decide +kernel
theorem dX9_cheer_34 : decode cX9_cheer 34 = .ok (.iaload, 1) := by decide +kernel
theorem dX9_cheer_35 : decode cX9_cheer 35 = .ok (.iconst 2, 1) := by decide +kernel
theorem dX9_cheer_36 : decode cX9_cheer 36 = .ok (.if_icmp .ne 8, 3) := by decide +kernel
theorem dX9_cheer_39 : decode cX9_cheer 39 = .ok (.bipush 60, 2) := by decide +kernel
theorem dX9_cheer_41 : decode cX9_cheer 41 = .ok (.goto 4, 3) := by decide +kernel
theorem dX9_cheer_44 : decode cX9_cheer 44 = .ok (.iload_n 1, 1) := by decide +kernel
theorem dX9_cheer_45 : decode cX9_cheer 45 = .ok (.ireturn, 1) := by decide +kernel
set_option maxRecDepth 20000 in
theorem ggX9_as_X9_isHelper : GoodIn wsX9_as wsX9_isHelper := goodIn_r _ [7, 8, 16, 17, 18, 19, 20, 21, 22, 23, 24, 25, 26, 27, 28, 29, 30, 31, 32, 33, 34, 35, 36, 37, 38, 39, 40, 41, 42, 43, 44, 45, 46] (by decide +kernel) (by decide +kernel)
set_option maxRecDepth 20000 in
theorem gX9_as_X9_isHelper : GoodIn wsX9_as (wsV RX9 133 RX9 yX9_isHelper wsX9_isHelper) := goodIn_app (goodIn_of _ (by decide +kernel)) ggX9_as_X9_isHelper
set_option maxRecDepth 20000 in
theorem ggX9_as_X9_within : GoodIn wsX9_as wsX9_within := goodIn_r _ [11] (by decide +kernel) (by decide +kernel)
set_option maxRecDepth 20000 in
theorem gX9_as_X9_within : GoodIn wsX9_as (va_wsS RX9 77 yX9_within wsX9_within) := goodIn_app (goodIn_of _ (by decide +kernel)) ggX9_as_X9_within
set_option maxRecDepth 20000 in
theorem ggX9_as_X9_fails : GoodIn wsX9_as wsX9_fails := goodIn_r _ [15, 1, 16, 17, 18, 19, 20, 21, 22, 23, 24, 25, 26, 27, 28, 29, 30, 31, 32, 33, 34, 35, 36, 37, 38, 39, 40, 41, 42, 43, 44, 45, 46] (by decide +kernel) (by decide +kernel)
set_option maxRecDepth 20000 in
theorem gX9_as_X9_fails : GoodIn wsX9_as (wsV RX9 101 RX9 yX9_fails wsX9_fails) := goodIn_app (goodIn_of _ (by decide +kernel)) ggX9_as_X9_fails
theorem dX9_as_0 : decode cX9_as 0 = .ok (.aload_n 0, 1) := by decide +kernel
theorem dX9_as_1 : decode cX9_as 1 = .ok (.iconst 0, 1) := by decide +kernel
theorem dX9_as_2 : decode cX9_as 2 = .ok (.putfield 71, 3) := by decide +kernel
theorem dX9_as_5 : decode cX9_as 5 = .ok (.aload_n 0, 1) := by decide +kernel
theorem dX9_as_6 : decode cX9_as 6 = .ok (.iload_n 1, 1) := by decide +kernel
theorem dX9_as_7 : decode cX9_as 7 = .ok (.invokevirtual 133, 3) := by decide +kernel
theorem dX9_as_10 : decode cX9_as 10 = .ok (.ifCond .ne 5, 3) := by decide +kernel
theorem dX9_as_13 : decode cX9_as 13 = .ok (.iconst (-1), 1) := by decide +kernel
theorem dX9_as_14 : decode cX9_as 14 = .ok (.ireturn, 1) := by decide +kernel
theorem dX9_as_15 : decode cX9_as 15 = .ok (.iload_n 2, 1) := by decide +kernel
theorem dX9_as_16 : decode cX9_as 16 = .ok (.iconst 0, 1) := by decide +kernel
theorem dX9_as_17 : decode cX9_as 17 = .ok (.iconst 2, 1) := by decide +kernel
theorem dX9_as_18 : decode cX9_as 18 = .ok (.invokestatic 77, 3) := by decide +kernel
theorem dX9_as_21 : decode cX9_as 21 = .ok (.ifCond .ne 6, 3) := by decide +kernel
theorem dX9_as_24 : decode cX9_as 24 = .ok (.bipush (-2), 2) := by decide +kernel
theorem dX9_as_26 : decode cX9_as 26 = .ok (.ireturn, 1) := by decide +kernel
theorem dX9_as_27 : decode cX9_as 27 = .ok (.aload_n 0, 1) := by decide +kernel
theorem dX9_as_28 : decode cX9_as 28 = .ok (.getfield 29, 3) := by decide +kernel
theorem dX9_as_31 : decode cX9_as 31 = .ok (.iload_n 1, 1) := by decide +kernel
theorem dX9_as_32 : decode cX9_as 32 = .ok (.iaload, 1) := by decide +kernel
theorem dX9_as_33 : decode cX9_as 33 = .ok (.iload_n 2, 1) := by decide +kernel
theorem dX9_as_34 : decode cX9_as 34 = .ok (.if_icmp .lt 7, 3) := by decide +kernel
theorem dX9_as_37 : decode cX9_as 37 = .ok (.iconst 1, 1) := by decide +kernel
theorem dX9_as_38 : decode cX9_as 38 = .ok (.goto 8, 3) := by decide +kernel
theorem dX9_as_41 : decode cX9_as 41 = .ok (.aload_n 0, 1) := by decide +kernel
theorem dX9_as_42 : decode cX9_as 42 = .ok (.iconst 2, 1) := by decide +kernel
theorem dX9_as_43 : decode cX9_as 43 = .ok (.invokevirtual 101, 3) := by decide +kernel
theorem dX9_as_46 : decode cX9_as 46 = .ok (.ireturn, 1) := by decide +kernel
theorem dX9_trace_0 : decode cX9_trace 0 = .ok (.aload_n 0, 1) := by decide +kernel
theorem dX9_trace_1 : decode cX9_trace 1 = .ok (.getfield 236, 3) := by decide +kernel
theorem dX9_trace_4 : decode cX9_trace 4 = .ok (.ireturn, 1) := by decide +kernel
theorem dX9_fault_0 : decode cX9_fault 0 = .ok (.aload_n 0, 1) := by decide +kernel
theorem dX9_fault_1 : decode cX9_fault 1 = .ok (.getfield 71, 3) := by decide +kernel
theorem dX9_fault_4 : decode cX9_fault 4 = .ok (.ireturn, 1) := by decide +kernel
theorem dX9_many_0 : decode cX9_many 0 = .ok (.iload_n 1, 1) := by decide +kernel
theorem dX9_many_1 : decode cX9_many 1 = .ok (.tableswitch 75 0 4 #[35, 40, 45, 50, 70], 35) := by decide +kernel
theorem dX9_many_36 : decode cX9_many 36 = .ok (.aload_n 0, 1) := by decide +kernel
theorem dX9_many_37 : decode cX9_many 37 = .ok (.getfield 81, 3) := by decide +kernel
theorem dX9_many_40 : decode cX9_many 40 = .ok (.ireturn, 1) := by decide +kernel
theorem dX9_many_41 : decode cX9_many 41 = .ok (.aload_n 0, 1) := by decide +kernel
theorem dX9_many_42 : decode cX9_many 42 = .ok (.getfield 84, 3) := by decide +kernel
theorem dX9_many_45 : decode cX9_many 45 = .ok (.ireturn, 1) := by decide +kernel
theorem dX9_many_46 : decode cX9_many 46 = .ok (.aload_n 0, 1) := by decide +kernel
theorem dX9_many_47 : decode cX9_many 47 = .ok (.getfield 120, 3) := by decide +kernel
theorem dX9_many_50 : decode cX9_many 50 = .ok (.ireturn, 1) := by decide +kernel
theorem dX9_many_51 : decode cX9_many 51 = .ok (.aload_n 0, 1) := by decide +kernel
theorem dX9_many_52 : decode cX9_many 52 = .ok (.getfield 81, 3) := by decide +kernel
theorem dX9_many_55 : decode cX9_many 55 = .ok (.ifCond .ne 7, 3) := by decide +kernel
theorem dX9_many_58 : decode cX9_many 58 = .ok (.iconst 0, 1) := by decide +kernel
theorem dX9_many_59 : decode cX9_many 59 = .ok (.goto 11, 3) := by decide +kernel
theorem dX9_many_62 : decode cX9_many 62 = .ok (.iconst 2, 1) := by decide +kernel
theorem dX9_many_63 : decode cX9_many 63 = .ok (.aload_n 0, 1) := by decide +kernel
theorem dX9_many_64 : decode cX9_many 64 = .ok (.getfield 81, 3) := by decide +kernel
theorem dX9_many_67 : decode cX9_many 67 = .ok (.imul, 1) := by decide +kernel
theorem dX9_many_68 : decode cX9_many 68 = .ok (.iconst 1, 1) := by decide +kernel
theorem dX9_many_69 : decode cX9_many 69 = .ok (.isub, 1) := by decide +kernel
theorem dX9_many_70 : decode cX9_many 70 = .ok (.ireturn, 1) := by decide +kernel
theorem dX9_many_71 : decode cX9_many 71 = .ok (.aload_n 0, 1) := by decide +kernel
theorem dX9_many_72 : decode cX9_many 72 = .ok (.getfield 117, 3) := by decide +kernel
theorem dX9_many_75 : decode cX9_many 75 = .ok (.ireturn, 1) := by decide +kernel
theorem dX9_many_76 : decode cX9_many 76 = .ok (.bipush (-2), 2) := by decide +kernel
theorem dX9_many_78 : decode cX9_many 78 = .ok (.ireturn, 1) := by decide +kernel
theorem dJ13_bitCount_95d88_0 : decode cJ13_bitCount_95d88 0 = .ok (.lload_n 0, 1) := by decide +kernel
theorem dJ13_bitCount_95d88_1 : decode cJ13_bitCount_95d88 1 = .ok (.lload_n 0, 1) := by decide +kernel
theorem dJ13_bitCount_95d88_2 : decode cJ13_bitCount_95d88 2 = .ok (.iconst 1, 1) := by decide +kernel
theorem dJ13_bitCount_95d88_3 : decode cJ13_bitCount_95d88 3 = .ok (.lushr, 1) := by decide +kernel
theorem dJ13_bitCount_95d88_4 : decode cJ13_bitCount_95d88 4 = .ok (.ldc2_w 314, 3) := by decide +kernel
theorem dJ13_bitCount_95d88_7 : decode cJ13_bitCount_95d88 7 = .ok (.land, 1) := by decide +kernel
theorem dJ13_bitCount_95d88_8 : decode cJ13_bitCount_95d88 8 = .ok (.lsub, 1) := by decide +kernel
theorem dJ13_bitCount_95d88_9 : decode cJ13_bitCount_95d88 9 = .ok (.lstore_n 0, 1) := by decide +kernel
theorem dJ13_bitCount_95d88_10 : decode cJ13_bitCount_95d88 10 = .ok (.lload_n 0, 1) := by decide +kernel
theorem dJ13_bitCount_95d88_11 : decode cJ13_bitCount_95d88 11 = .ok (.ldc2_w 316, 3) := by decide +kernel
theorem dJ13_bitCount_95d88_14 : decode cJ13_bitCount_95d88 14 = .ok (.land, 1) := by decide +kernel
theorem dJ13_bitCount_95d88_15 : decode cJ13_bitCount_95d88 15 = .ok (.lload_n 0, 1) := by decide +kernel
theorem dJ13_bitCount_95d88_16 : decode cJ13_bitCount_95d88 16 = .ok (.iconst 2, 1) := by decide +kernel
theorem dJ13_bitCount_95d88_17 : decode cJ13_bitCount_95d88 17 = .ok (.lushr, 1) := by decide +kernel
theorem dJ13_bitCount_95d88_18 : decode cJ13_bitCount_95d88 18 = .ok (.ldc2_w 316, 3) := by decide +kernel
theorem dJ13_bitCount_95d88_21 : decode cJ13_bitCount_95d88 21 = .ok (.land, 1) := by decide +kernel
theorem dJ13_bitCount_95d88_22 : decode cJ13_bitCount_95d88 22 = .ok (.ladd, 1) := by decide +kernel
theorem dJ13_bitCount_95d88_23 : decode cJ13_bitCount_95d88 23 = .ok (.lstore_n 0, 1) := by decide +kernel
theorem dJ13_bitCount_95d88_24 : decode cJ13_bitCount_95d88 24 = .ok (.lload_n 0, 1) := by decide +kernel
theorem dJ13_bitCount_95d88_25 : decode cJ13_bitCount_95d88 25 = .ok (.lload_n 0, 1) := by decide +kernel
theorem dJ13_bitCount_95d88_26 : decode cJ13_bitCount_95d88 26 = .ok (.iconst 4, 1) := by decide +kernel
theorem dJ13_bitCount_95d88_27 : decode cJ13_bitCount_95d88 27 = .ok (.lushr, 1) := by decide +kernel
theorem dJ13_bitCount_95d88_28 : decode cJ13_bitCount_95d88 28 = .ok (.ladd, 1) := by decide +kernel
theorem dJ13_bitCount_95d88_29 : decode cJ13_bitCount_95d88 29 = .ok (.ldc2_w 318, 3) := by decide +kernel
theorem dJ13_bitCount_95d88_32 : decode cJ13_bitCount_95d88 32 = .ok (.land, 1) := by decide +kernel
theorem dJ13_bitCount_95d88_33 : decode cJ13_bitCount_95d88 33 = .ok (.lstore_n 0, 1) := by decide +kernel
theorem dJ13_bitCount_95d88_34 : decode cJ13_bitCount_95d88 34 = .ok (.lload_n 0, 1) := by decide +kernel
theorem dJ13_bitCount_95d88_35 : decode cJ13_bitCount_95d88 35 = .ok (.lload_n 0, 1) := by decide +kernel
theorem dJ13_bitCount_95d88_36 : decode cJ13_bitCount_95d88 36 = .ok (.bipush 8, 2) := by decide +kernel
theorem dJ13_bitCount_95d88_38 : decode cJ13_bitCount_95d88 38 = .ok (.lushr, 1) := by decide +kernel
theorem dJ13_bitCount_95d88_39 : decode cJ13_bitCount_95d88 39 = .ok (.ladd, 1) := by decide +kernel
theorem dJ13_bitCount_95d88_40 : decode cJ13_bitCount_95d88 40 = .ok (.lstore_n 0, 1) := by decide +kernel
theorem dJ13_bitCount_95d88_41 : decode cJ13_bitCount_95d88 41 = .ok (.lload_n 0, 1) := by decide +kernel
theorem dJ13_bitCount_95d88_42 : decode cJ13_bitCount_95d88 42 = .ok (.lload_n 0, 1) := by decide +kernel
theorem dJ13_bitCount_95d88_43 : decode cJ13_bitCount_95d88 43 = .ok (.bipush 16, 2) := by decide +kernel
theorem dJ13_bitCount_95d88_45 : decode cJ13_bitCount_95d88 45 = .ok (.lushr, 1) := by decide +kernel
theorem dJ13_bitCount_95d88_46 : decode cJ13_bitCount_95d88 46 = .ok (.ladd, 1) := by decide +kernel
theorem dJ13_bitCount_95d88_47 : decode cJ13_bitCount_95d88 47 = .ok (.lstore_n 0, 1) := by decide +kernel
theorem dJ13_bitCount_95d88_48 : decode cJ13_bitCount_95d88 48 = .ok (.lload_n 0, 1) := by decide +kernel
theorem dJ13_bitCount_95d88_49 : decode cJ13_bitCount_95d88 49 = .ok (.lload_n 0, 1) := by decide +kernel
theorem dJ13_bitCount_95d88_50 : decode cJ13_bitCount_95d88 50 = .ok (.bipush 32, 2) := by decide +kernel
theorem dJ13_bitCount_95d88_52 : decode cJ13_bitCount_95d88 52 = .ok (.lushr, 1) := by decide +kernel
theorem dJ13_bitCount_95d88_53 : decode cJ13_bitCount_95d88 53 = .ok (.ladd, 1) := by decide +kernel
theorem dJ13_bitCount_95d88_54 : decode cJ13_bitCount_95d88 54 = .ok (.lstore_n 0, 1) := by decide +kernel
theorem dJ13_bitCount_95d88_55 : decode cJ13_bitCount_95d88 55 = .ok (.lload_n 0, 1) := by decide +kernel
theorem dJ13_bitCount_95d88_56 : decode cJ13_bitCount_95d88 56 = .ok (.l2i, 1) := by decide +kernel
theorem dJ13_bitCount_95d88_57 : decode cJ13_bitCount_95d88 57 = .ok (.bipush 127, 2) := by decide +kernel
theorem dJ13_bitCount_95d88_59 : decode cJ13_bitCount_95d88 59 = .ok (.iand, 1) := by decide +kernel
theorem dJ13_bitCount_95d88_60 : decode cJ13_bitCount_95d88 60 = .ok (.ireturn, 1) := by decide +kernel
theorem dJ9_max_f86c9_0 : decode cJ9_max_f86c9 0 = .ok (.lload_n 0, 1) := by decide +kernel
theorem dJ9_max_f86c9_1 : decode cJ9_max_f86c9 1 = .ok (.lload_n 2, 1) := by decide +kernel
theorem dJ9_max_f86c9_2 : decode cJ9_max_f86c9 2 = .ok (.lcmp, 1) := by decide +kernel
theorem dJ9_max_f86c9_3 : decode cJ9_max_f86c9 3 = .ok (.ifCond .lt 7, 3) := by decide +kernel
theorem dJ9_max_f86c9_6 : decode cJ9_max_f86c9 6 = .ok (.lload_n 0, 1) := by decide +kernel
theorem dJ9_max_f86c9_7 : decode cJ9_max_f86c9 7 = .ok (.goto 4, 3) := by decide +kernel
theorem dJ9_max_f86c9_10 : decode cJ9_max_f86c9 10 = .ok (.lload_n 2, 1) := by decide +kernel
theorem dJ9_max_f86c9_11 : decode cJ9_max_f86c9 11 = .ok (.lreturn, 1) := by decide +kernel
theorem dJ9_min_f86c9_0 : decode cJ9_min_f86c9 0 = .ok (.lload_n 0, 1) := by decide +kernel
theorem dJ9_min_f86c9_1 : decode cJ9_min_f86c9 1 = .ok (.lload_n 2, 1) := by decide +kernel
theorem dJ9_min_f86c9_2 : decode cJ9_min_f86c9 2 = .ok (.lcmp, 1) := by decide +kernel
theorem dJ9_min_f86c9_3 : decode cJ9_min_f86c9 3 = .ok (.ifCond .gt 7, 3) := by decide +kernel
theorem dJ9_min_f86c9_6 : decode cJ9_min_f86c9 6 = .ok (.lload_n 0, 1) := by decide +kernel
theorem dJ9_min_f86c9_7 : decode cJ9_min_f86c9 7 = .ok (.goto 4, 3) := by decide +kernel
theorem dJ9_min_f86c9_10 : decode cJ9_min_f86c9 10 = .ok (.lload_n 2, 1) := by decide +kernel
theorem dJ9_min_f86c9_11 : decode cJ9_min_f86c9 11 = .ok (.lreturn, 1) := by decide +kernel
theorem dJ7_fill_53178_0 : decode cJ7_fill_53178 0 = .ok (.iconst 0, 1) := by decide +kernel
theorem dJ7_fill_53178_1 : decode cJ7_fill_53178 1 = .ok (.istore_n 2, 1) := by decide +kernel
theorem dJ7_fill_53178_2 : decode cJ7_fill_53178 2 = .ok (.aload_n 0, 1) := by decide +kernel
theorem dJ7_fill_53178_3 : decode cJ7_fill_53178 3 = .ok (.arraylength, 1) := by decide +kernel
theorem dJ7_fill_53178_4 : decode cJ7_fill_53178 4 = .ok (.istore_n 3, 1) := by decide +kernel
theorem dJ7_fill_53178_5 : decode cJ7_fill_53178 5 = .ok (.iload_n 2, 1) := by decide +kernel
theorem dJ7_fill_53178_6 : decode cJ7_fill_53178 6 = .ok (.iload_n 3, 1) := by decide +kernel
theorem dJ7_fill_53178_7 : decode cJ7_fill_53178 7 = .ok (.if_icmp .ge 13, 3) := by decide +kernel
theorem dJ7_fill_53178_10 : decode cJ7_fill_53178 10 = .ok (.aload_n 0, 1) := by decide +kernel
theorem dJ7_fill_53178_11 : decode cJ7_fill_53178 11 = .ok (.iload_n 2, 1) := by decide +kernel
theorem dJ7_fill_53178_12 : decode cJ7_fill_53178 12 = .ok (.iload_n 1, 1) := by decide +kernel
theorem dJ7_fill_53178_13 : decode cJ7_fill_53178 13 = .ok (.iastore, 1) := by decide +kernel
theorem dJ7_fill_53178_14 : decode cJ7_fill_53178 14 = .ok (.iinc 2 1, 3) := by decide +kernel
theorem dJ7_fill_53178_17 : decode cJ7_fill_53178 17 = .ok (.goto (-12), 3) := by decide +kernel
theorem dJ7_fill_53178_20 : decode cJ7_fill_53178 20 = .ok (.return_, 1) := by decide +kernel
end
section
/-! THE HEAP AS A FUNCTION OF PLACES: the cell z + i holds what E i says, for every i below M. No method but a constructor makes a cell, so that z and M stay; a method's contract speaks of E alone. -/
abbrev qh_G : Type := va_G × ClassId × ClassId × ClassId × ClassId
def qa_I (G : qh_G) (n : Nat) (f : Nat → Int32) : va_E := .inl (G.2.1, n, .inl f)
def qa_J (G : qh_G) (n : Nat) (f : Nat → Int64) : va_E := .inl (G.2.2.1, n, .inr (.inl f))
def qa_A (G : qh_G) (n : Nat) (f : Nat → Option Nat) : va_E := .inl (G.2.2.2.1, n, .inr (.inr (.inr (.inr f))))
def qa_S (G : qh_G) (n : Nat) (f : Nat → Option Nat) : va_E := .inl (G.2.2.2.2, n, .inr (.inr (.inr (.inr f))))
def qh_ty (G : qh_G) : List (ClassId × FieldType) := [(G.2.1, .int), (G.2.2.1, .long), (G.2.2.2.1, .object "CappedRow$Act"), (G.2.2.2.2, .object "CappedRow$Sheet")]
def qh_K (G : qh_G) (U : State) : Prop := va_K G.1 vwCl (qh_ty G) U
def qh_P (G : qh_G) (z M : Nat) (E : Nat → va_E) (H : Heap) : Prop := z + M ≤ H.size ∧ ∀ i, i < M → va_at G.1 vwCl (z + i, E i) H
def qh_H (G : qh_G) (z M : Nat) (E : Nat → va_E) (H0 H : Heap) (locs : List Loc) : Prop := qh_P G z M E H ∧ va_S (fun q => z ≤ q) H0 H locs
theorem qh_H.start {G : qh_G} {z M : Nat} {E : Nat → va_E} {H : Heap} (h : qh_P G z M E H) : qh_H G z M E H H [] := ⟨h, va_S.rf⟩
/-- a cell that changed -/
theorem qh_H.set {G : qh_G} {z M : Nat} {E : Nat → va_E} {H0 H H1 : Heap} {locs : List Loc} (h : qh_H G z M E H0 H locs) {i : Nat} {e : va_E} (hat : va_at G.1 vwCl (z + i, e) H1) (hsz : H1.size = H.size) (hoq : ∀ q, q ≠ z + i → H1[q]? = H[q]?) (k : Nat) : qh_H G z M (va_up E i e) H0 H1 (locs ++ [⟨z + i, k⟩]) := by
  refine ⟨⟨by rw [hsz]; exact h.1.1, fun j hj => ?_⟩, h.2.put hsz hoq (Nat.le_add_right z i)⟩
  by_cases hji : j = i
  · subst hji
    rw [va_up_self]
    exact hat
  · rw [va_up_ne _ _ hji]
    exact (h.1.2 j hj).kept (hoq (z + j) (by omega))
/-- what the tables say of a field that is read -/
def qh_F (G : qh_G) (s : State) (m : MethodId) (args : Array Value) (ix ci k : Nat) : Prop := ∃ (own ref name desc : String) (cf : Nat) (kl : Class) (i : Nat) (f : Field) (r : vw_C), s.vm.findClass own = some m.cls ∧ (Cond.fieldLink own ix ref name desc).before args s = true ∧ s.fieldFound? ref name desc = some (cf, kl, i, f) ∧ f.isStatic = false ∧ f.slot = G.1.2 ci k ∧ vwCl[ci]? = some r ∧ k < r.2.2
theorem qh_F.of {G : qh_G} {s : State} {m : MethodId} {args : Array Value} {own C : String} {T : u_T} {N ix ci : Nat} {Ts : List Cond} (hts : ∀ w ∈ Ts, w.before args s = true) (hin : ∀ w ∈ u_ws C T N, w ∈ Ts) (hown : s.vm.findClass own = some m.cls) (hK : qh_K G s) (hc : vwCl[ci]? = some (C, T, N)) (k : Nat) (hk : k < N) (hl : Cond.fieldLink own ix (T k).1 (T k).2.1 (T k).2.2.1 ∈ Ts) : qh_F G s m args ix ci k := by
  obtain ⟨hS, hfc, kC, hkC, hkind⟩ := hK.1 ci _ hc
  obtain ⟨cf, kf, fi, f, hi, hsl⟩ := hS k hk
  exact ⟨own, _, _, _, cf, kf, fi, f, _, hown, hts _ hl, hi, (u_facts hfc hkC (u_lays hts hin hk) hi).1, hsl, hc, hk⟩
/-- .. and of one that is written -/
def qh_W (G : qh_G) (s : State) (m : MethodId) (args : Array Value) (ix ci k : Nat) (ty : FieldType) : Prop := ∃ (own C : String) (T : u_T) (N : Nat) (f : Field), vwCl[ci]? = some (C, T, N) ∧ k < N ∧ Fd s m args own (T k).1 (T k).2.1 (T k).2.2.1 ix f ∧ f.slot = G.1.2 ci k ∧ (∀ v, narrow ty v = v → fits ty v = true → k2_Sd s f (G.1.1 ci) v) ∧ ∀ x y, x < N → y < N → x ≠ y → (G.1.2 ci) x ≠ (G.1.2 ci) y
theorem qh_W.of {G : qh_G} {s : State} {m : MethodId} {args : Array Value} {own C : String} {T : u_T} {N ix ci : Nat} {Ts : List Cond} (hts : ∀ w ∈ Ts, w.before args s = true) (hin : ∀ w ∈ u_ws C T N, w ∈ Ts) (ty0 : Nat → FieldType) (hty : ∀ k, k < N → parseFieldDescriptor (T k).2.2.1 = some (ty0 k)) (hnm : ∀ a, a < N → ∀ b, b < N → a ≠ b → (T a).2.1 ≠ (T b).2.1) (hown : s.vm.findClass own = some m.cls) (hK : qh_K G s) (hc : vwCl[ci]? = some (C, T, N)) (k : Nat) (hk : k < N) (hl : Cond.fieldLink own ix (T k).1 (T k).2.1 (T k).2.2.1 ∈ Ts) (hfin : (T k).2.2.2 = false) {ty : FieldType} (hd : parseFieldDescriptor (T k).2.2.1 = some ty) : qh_W G s m args ix ci k ty := by
  have hap := va_apart (own := own) hts hin ty0 hty hnm hK hc
  obtain ⟨hS, hfc, kC, hkC, hkind⟩ := hK.1 ci _ hc
  obtain ⟨cf, kf, fi, f, hi, hsl⟩ := hS k hk
  have hlay := hts _ (hin _ (u_in_lay hk))
  unfold u_lay at hlay
  rw [if_neg (by rw [hfin]; decide)] at hlay
  exact ⟨own, C, T, N, f, hc, hk, ⟨hown, hts _ hl, ⟨_, _, _, hi⟩, (u_facts hfc hkC (u_lays hts hin hk) hi).1⟩, hsl, fun v hn hfit => u_store hfc hkC hkind hlay hi hd hn hfit, hap⟩
section QHR
variable {p : Program} {l : Launch} {e : Env} {R : Room} {s : State} {m : MethodId} {args : Array Value} {below : List Frame} {meth : Method} {c : Code} {H : Heap} {locs : List Loc} {cells slots : Nat} {Q : State → Prop}
variable {cc : ByteArray} {pc : Nat} {ls : Array Slot} {rest : List Value} {G : qh_G} {z M : Nat} {E : Nat → va_E} {H0 : Heap}
theorem qh_get (hx : p.tables.exec = Jvm.exec) (hb : c.code = cc) (hH : qh_H G z M E H0 H locs) {ix ci k : Nat} (hF : qh_F G s m args ix ci k) {i : Nat} (hi : i < M) {fs : List Value} (he : E i = .inr (ci, fs)) {v : Value} (hv : fs[k]? = some v) (hd : decode cc pc = .ok (.getfield ix, 3))
    (kk : W p l e R s m args below meth c H locs cells slots Q (F0 m (pc + 3) ls (v :: rest))) : W p l e R s m args below meth c H locs cells slots Q (F0 m pc ls (.ref (z + i) :: rest)) := by
  obtain ⟨own, ref, name, desc, cf, kl, j, f, r, h1, h2, h3, h4, h5, hr, hk⟩ := hF
  have hat := hH.1.2 i hi
  rw [he] at hat
  obtain ⟨r', hr', cell, q1, q2, q3, q4⟩ := hat
  cases hr.symm.trans hr'
  refine W.getf hx hb h1 h2 h3 h4 q1 (by rw [q3]; exact fun h => by cases h) (v := v) ?_ rfl rfl hd kk
  rw [h5, q4 k hk]
  simp [vp_V, hv]
theorem qh_put (hx : p.tables.exec = Jvm.exec) (hb : c.code = cc) (hH : qh_H G z M E H0 H locs) {ix ci k : Nat} {ty : FieldType} (hF : qh_W G s m args ix ci k ty) {i : Nat} (hi : i < M) {fs fs' : List Value} (he : E i = .inr (ci, fs)) {v : Value} (hn : narrow ty v = v) (hfit : fits ty v = true) (hl : k < fs.length) (hfs : fs.set k v = fs') (hd : decode cc pc = .ok (.putfield ix, 3))
    (kk : ∀ (E' : Nat → va_E) (H1 : Heap) (locs1 : List Loc), E' i = .inr (ci, fs') → (∀ j, j ≠ i → E' j = E j) → qh_H G z M E' H0 H1 locs1 → H1.size = H.size → W p l e R s m args below meth c H1 locs1 cells slots Q (F0 m (pc + 3) ls rest)) : W p l e R s m args below meth c H locs cells slots Q (F0 m pc ls (v :: .ref (z + i) :: rest)) := by
  subst hfs
  obtain ⟨own, C, T, N, f, hc, hk, hFd, hsl, hSd, hap⟩ := hF
  have hat := hH.1.2 i hi
  rw [he] at hat
  obtain ⟨r', hr', cell, q1, q2, q3, q4⟩ := hat
  cases hc.symm.trans hr'
  refine W.putK hx hb (f := f) hFd (by rw [q2]; exact hSd v hn hfit) q1 q3 (by rw [hsl]; exact k2_hasslot (q4 k hk)) rfl rfl hd fun H' e1 e2 e3 => ?_
  rw [hsl] at e1 ⊢
  have hat : va_at G.1 vwCl (z + i, .inr (ci, fs.set k v)) H' := ⟨_, hc, t_OB.to (V := updV (vp_V fs) k v) ⟨_, e1, q2, q3, t_set q4 hap hk v⟩ (fun j _ => vp_updV_set hl v j)⟩
  exact kk (va_up E i (.inr (ci, fs.set k v))) H' _ (va_up_self ..) (fun j hj => va_up_ne _ _ hj) (hH.set hat e2 e3 _) e2
theorem qh_inI {x : Int32} {j n : Nat} (hx : x = nI j) (hj : j < n) (hn : n < 2 ^ 31) : ¬ (x < 0 ∨ n ≤ x.toNatClampNeg) ∧ x.toNatClampNeg = j := by
  subst hx
  exact ⟨nI_in hj hn, nI_clamp (by omega)⟩
theorem qh_iald (hx : p.tables.exec = Jvm.exec) (hb : c.code = cc) (hK : qh_K G s) (hH : qh_H G z M E H0 H locs) {i : Nat} (hi : i < M) {n : Nat} {f : Nat → Int32} (he : E i = qa_I G n f) {x : Int32} {j : Nat} (hxj : x = nI j) (hj : j < n) (hn : n < 2 ^ 31) (hd : decode cc pc = .ok (.iaload, 1))
    (kk : W p l e R s m args below meth c H locs cells slots Q (F0 m (pc + 1) ls (.int (f j) :: rest))) : W p l e R s m args below meth c H locs cells slots Q (F0 m pc ls (.int x :: .ref (z + i) :: rest)) := by
  have hat := hH.1.2 i hi
  rw [he] at hat
  obtain ⟨h1, h2⟩ := qh_inI hxj hj hn
  exact W.iald (v := .int (f j)) hx hb hat ((hK.2 0 _ rfl).1 n (fun j => .int (f j))) (fun q => by cases q) (by show ¬ (x < 0 ∨ (arrV _ _ _).slots.size ≤ _); rw [arrV_size]; exact h1) (by show (arrV _ _ _).slots[_]? = _; rw [h2, arrV_read _ _ hj]) rfl rfl hd kk
theorem qh_lald (hx : p.tables.exec = Jvm.exec) (hb : c.code = cc) (hK : qh_K G s) (hH : qh_H G z M E H0 H locs) {i : Nat} (hi : i < M) {n : Nat} {f : Nat → Int64} (he : E i = qa_J G n f) {x : Int32} {j : Nat} (hxj : x = nI j) (hj : j < n) (hn : n < 2 ^ 31) (hd : decode cc pc = .ok (.laload, 1))
    (kk : W p l e R s m args below meth c H locs cells slots Q (F0 m (pc + 1) ls (.long (f j) :: rest))) : W p l e R s m args below meth c H locs cells slots Q (F0 m pc ls (.int x :: .ref (z + i) :: rest)) := by
  have hat := hH.1.2 i hi
  rw [he] at hat
  obtain ⟨h1, h2⟩ := qh_inI hxj hj hn
  exact W.lald (v := .long (f j)) hx hb hat ((hK.2 1 _ rfl).1 n (fun j => .long (f j))) (fun q => by cases q) (by show ¬ (x < 0 ∨ (arrV _ _ _).slots.size ≤ _); rw [arrV_size]; exact h1) (by show (arrV _ _ _).slots[_]? = _; rw [h2, arrV_read _ _ hj]) rfl rfl hd kk
theorem qh_aaldA (hx : p.tables.exec = Jvm.exec) (hb : c.code = cc) (hK : qh_K G s) (hH : qh_H G z M E H0 H locs) {i : Nat} (hi : i < M) {n : Nat} {f : Nat → Option Nat} (he : E i = qa_A G n f) {x : Int32} {j a : Nat} (hxj : x = nI j) (hj : j < n) (hn : n < 2 ^ 31) (hfa : f j = some a) (hd : decode cc pc = .ok (.aaload, 1))
    (kk : W p l e R s m args below meth c H locs cells slots Q (F0 m (pc + 1) ls (.ref a :: rest))) : W p l e R s m args below meth c H locs cells slots Q (F0 m pc ls (.int x :: .ref (z + i) :: rest)) := by
  have hat := hH.1.2 i hi
  rw [he] at hat
  obtain ⟨h1, h2⟩ := qh_inI hxj hj hn
  exact W.aald (v := .ref a) (ty := .object "CappedRow$Act") hx hb hat ((hK.2 2 _ rfl).1 n (fun j => va_rf (f j))) rfl (fun q => by cases q) (by show ¬ (x < 0 ∨ (arrV _ _ _).slots.size ≤ _); rw [arrV_size]; exact h1) (by show (arrV _ _ _).slots[_]? = _; rw [h2, arrV_read _ _ hj, hfa]; rfl) rfl rfl hd kk
theorem qh_aaldS (hx : p.tables.exec = Jvm.exec) (hb : c.code = cc) (hK : qh_K G s) (hH : qh_H G z M E H0 H locs) {i : Nat} (hi : i < M) {n : Nat} {f : Nat → Option Nat} (he : E i = qa_S G n f) {x : Int32} {j a : Nat} (hxj : x = nI j) (hj : j < n) (hn : n < 2 ^ 31) (hfa : f j = some a) (hd : decode cc pc = .ok (.aaload, 1))
    (kk : W p l e R s m args below meth c H locs cells slots Q (F0 m (pc + 1) ls (.ref a :: rest))) : W p l e R s m args below meth c H locs cells slots Q (F0 m pc ls (.int x :: .ref (z + i) :: rest)) := by
  have hat := hH.1.2 i hi
  rw [he] at hat
  obtain ⟨h1, h2⟩ := qh_inI hxj hj hn
  exact W.aald (v := .ref a) (ty := .object "CappedRow$Sheet") hx hb hat ((hK.2 3 _ rfl).1 n (fun j => va_rf (f j))) rfl (fun q => by cases q) (by show ¬ (x < 0 ∨ (arrV _ _ _).slots.size ≤ _); rw [arrV_size]; exact h1) (by show (arrV _ _ _).slots[_]? = _; rw [h2, arrV_read _ _ hj, hfa]; rfl) rfl rfl hd kk
theorem qh_iast (hx : p.tables.exec = Jvm.exec) (hb : c.code = cc) (hK : qh_K G s) (hH : qh_H G z M E H0 H locs) {i : Nat} (hi : i < M) {n : Nat} {f : Nat → Int32} (he : E i = qa_I G n f) {x v : Int32} {j : Nat} (hxj : x = nI j) (hj : j < n) (hn : n < 2 ^ 31) (hd : decode cc pc = .ok (.iastore, 1))
    (kk : ∀ (E' : Nat → va_E) (H1 : Heap) (locs1 : List Loc), E' i = qa_I G n (upd f j v) → (∀ j, j ≠ i → E' j = E j) → qh_H G z M E' H0 H1 locs1 → H1.size = H.size → W p l e R s m args below meth c H1 locs1 cells slots Q (F0 m (pc + 1) ls rest)) : W p l e R s m args below meth c H locs cells slots Q (F0 m pc ls (.int v :: .int x :: .ref (z + i) :: rest)) := by
  have hat := hH.1.2 i hi
  rw [he] at hat
  obtain ⟨h1, h2⟩ := qh_inI hxj hj hn
  refine W.iast hx hb hat ((hK.2 0 _ rfl).1 n (fun j => .int (f j))) (fun q => by cases q) (by show ¬ (x < 0 ∨ (arrV _ _ _).slots.size ≤ _); rw [arrV_size]; exact h1) rfl rfl hd fun H1 e1 e2 e3 => ?_
  refine kk (va_up E i (qa_I G n (upd f j v))) H1 _ (va_up_self ..) (fun j hj => va_up_ne _ _ hj) (hH.set ?_ e2 e3 _) e2
  show H1[z + i]? = some (vp_cell _ _)
  rw [e1, h2]
  show some ((arrV G.2.1 n (fun j => .int (f j))).setSlot j (.int v)) = some (arrV G.2.1 n (fun k => .int (upd f j v k)))
  rw [arrV_store]
  congr 2
  funext q
  by_cases hq : q = j <;> simp [updV, upd, hq]
theorem qh_last (hx : p.tables.exec = Jvm.exec) (hb : c.code = cc) (hK : qh_K G s) (hH : qh_H G z M E H0 H locs) {i : Nat} (hi : i < M) {n : Nat} {f : Nat → Int64} (he : E i = qa_J G n f) {x : Int32} {v : Int64} {j : Nat} (hxj : x = nI j) (hj : j < n) (hn : n < 2 ^ 31) (hd : decode cc pc = .ok (.lastore, 1))
    (kk : ∀ (E' : Nat → va_E) (H1 : Heap) (locs1 : List Loc), E' i = qa_J G n (vp_updL f j v) → (∀ j, j ≠ i → E' j = E j) → qh_H G z M E' H0 H1 locs1 → H1.size = H.size → W p l e R s m args below meth c H1 locs1 cells slots Q (F0 m (pc + 1) ls rest)) : W p l e R s m args below meth c H locs cells slots Q (F0 m pc ls (.long v :: .int x :: .ref (z + i) :: rest)) := by
  have hat := hH.1.2 i hi
  rw [he] at hat
  obtain ⟨h1, h2⟩ := qh_inI hxj hj hn
  refine W.last hx hb hat ((hK.2 1 _ rfl).1 n (fun j => .long (f j))) (fun q => by cases q) (by show ¬ (x < 0 ∨ (arrV _ _ _).slots.size ≤ _); rw [arrV_size]; exact h1) rfl rfl hd fun H1 e1 e2 e3 => ?_
  refine kk (va_up E i (qa_J G n (vp_updL f j v))) H1 _ (va_up_self ..) (fun j hj => va_up_ne _ _ hj) (hH.set ?_ e2 e3 _) e2
  show H1[z + i]? = some (vp_cell _ _)
  rw [e1, h2]
  show some ((arrV G.2.2.1 n (fun j => .long (f j))).setSlot j (.long v)) = some (arrV G.2.2.1 n (fun k => .long (vp_updL f j v k)))
  rw [arrV_store]
  congr 2
  funext q
  by_cases hq : q = j <;> simp [updV, vp_updL, hq]
theorem qh_alenI (hx : p.tables.exec = Jvm.exec) (hb : c.code = cc) (hK : qh_K G s) (hH : qh_H G z M E H0 H locs) {i : Nat} (hi : i < M) {n : Nat} {f : Nat → Int32} (he : E i = qa_I G n f) (hd : decode cc pc = .ok (.arraylength, 1))
    (kk : W p l e R s m args below meth c H locs cells slots Q (F0 m (pc + 1) ls (.int (nI n) :: rest))) : W p l e R s m args below meth c H locs cells slots Q (F0 m pc ls (.ref (z + i) :: rest)) := by
  have hat := hH.1.2 i hi
  rw [he] at hat
  exact W.alen (n := nI n) hx hb hat ((hK.2 0 _ rfl).1 n (fun j => .int (f j))) (by show (arrV _ _ _).slots.size.toInt32 = _; rw [arrV_size]; rfl) rfl rfl hd kk
end QHR
/-! contracts over E -/
def qh_Pre (G : qh_G) (z M : Nat) (E : Nat → va_E) (av : List Value) : Array Value → State → Prop := fun v U => v = av.toArray ∧ qh_P G z M E U.heap ∧ qh_K G U
def qh_Q (G : qh_G) (z M : Nat) (ok : Option Value → (Nat → va_E) → Prop) : Array Value → State → Outcome → State → Prop := fun _ st oc t => ∃ (v : Option Value) (E' : Nat → va_E), oc = .returned v ∧ ok v E' ∧ qh_P G z M E' t.heap ∧ va_F (fun q => z ≤ q) st t
def qh_i (post : Int32 → (Nat → va_E) → Prop) : Option Value → (Nat → va_E) → Prop := fun v E => ∃ r : Int32, v = some (.int r) ∧ post r E
def qh_l (post : Int64 → (Nat → va_E) → Prop) : Option Value → (Nat → va_E) → Prop := fun v E => ∃ r : Int64, v = some (.long r) ∧ post r E
def qh_v (post : (Nat → va_E) → Prop) : Option Value → (Nat → va_E) → Prop := fun v E => v = none ∧ post E
def qh_a (post : Value → (Nat → va_E) → Prop) : Option Value → (Nat → va_E) → Prop := fun v E => ∃ r : Value, v = some r ∧ post r E
abbrev qh_R (d : Nat) : Room := { frames := d, cells := 0, slots := 0, locals := 40 * d }
theorem qh_blind {G : qh_G} {z M : Nat} {E : Nat → va_E} {av : List Value} : FrameBlind (qh_Pre G z M E av) := fun a U g mk h => ⟨h.1, h.2.1, va_K.moved (u := U) (U := U.calling g mk a) (Vm.Alike.refl U.vm) h.2.2⟩
section QHC
variable {p : Program} {l : Launch} {e : Env} {R : Room} {s : State} {m : MethodId} {args : Array Value} {below : List Frame} {meth : Method} {c : Code} {H : Heap} {locs : List Loc} {cells slots : Nat} {Q : State → Prop}
variable {cc : ByteArray} {pc : Nat} {ls : Array Slot} {rest st0 : List Value} {G : qh_G} {z M : Nat} {E : Nat → va_E} {H0 : Heap}
/-- what a call leaves, whatever it answers -/
theorem qh_after {ok : Option Value → (Nat → va_E) → Prop} {a : Array Value} (hr : va_Run p l e R s m args below meth c H locs cells slots 0 0 (F0 m pc ls st0) rest (qh_Q G z M ok a) (fun q => z ≤ q)) (hS : va_S (fun q => z ≤ q) H0 H locs)
    (kk : ∀ (v : Option Value) (E' : Nat → va_E) (H1 : Heap) (locs1 : List Loc), ok v E' → qh_H G z M E' H0 H1 locs1 → W p l e R s m args below meth c H1 locs1 cells slots Q (F0 m (pc + 3) ls (v.toList ++ rest))) : W p l e R s m args below meth c H locs cells slots Q (F0 m pc ls st0) := by
  intro T hT X
  obtain ⟨v, st₀, t, T', L, h0, X', hL, e1, e2, ⟨v', E', hv, hok, hP, hz, hk⟩, st⟩ := hr T hT X
  cases hv
  rw [h0] at hz hk
  obtain ⟨t2, a1, b1⟩ := kk v E' T'.heap (locs ++ L) hok ⟨by rw [e1]; exact hP, Nat.le_trans hS.1 (by rw [e1]; exact hz), fun q h1 h2 => by rw [e1, hk q (Nat.lt_of_lt_of_le h1 hS.1) h2]; exact hS.2.1 q h1 h2, fun q hq => by
      rcases List.mem_append.mp hq with h | h
      · exact hS.2.2 q h
      · exact hL q h⟩ T' rfl X'
  exact ⟨t2, st t2 a1, b1⟩
variable {y : MethodName} {bytes : ByteArray} {maxL nL n index i ci N : Nat} {ret : Option FieldType} {ws : List Cond} {rm : Room} {Ts : List Cond} {own C : String} {TT : u_T} {As fs : List Value}
theorem qh_runV {ok : Option Value → (Nat → va_E) → Prop} (S : CallFix p m c cc nL s args Ts own) (hK : qh_K G s) (hH : qh_H G z M E H0 H locs) (hM : Met l y ws rm (qh_Pre G z M E (.ref (z + i) :: As)) (qh_Q G z M ok) 0 0 (fun q => z ≤ q)) (cw : CallW R s args own C index y bytes maxL ret ws rm 0 0 n) (hi : i < M) (he : E i = .inr (ci, fs)) (hc : vwCl[ci]? = some (C, TT, N))
    (hn : As.length = n) (hsize : ls.size = nL) (hstack : st0 = As.reverse ++ .ref (z + i) :: rest) (hW : (rest.map fun v => v.category).sum ≤ 8) (hdg : decode cc pc = .ok (.invokevirtual index, 3)) (hf : cells ≤ R.cells ∧ slots ≤ R.slots)
    (kk : ∀ (v : Option Value) (E' : Nat → va_E) (H1 : Heap) (locs1 : List Loc), ok v E' → qh_H G z M E' H0 H1 locs1 → W p l e R s m args below meth c H1 locs1 cells slots Q (F0 m (pc + 3) ls (v.toList ++ rest))) : W p l e R s m args below meth c H locs cells slots Q (F0 m pc ls st0) := by
  refine qh_after (va_runV (As := As) (rest := rest) (C := C) S hM cw ⟨qh_blind, ?_, fun U hU hW => ⟨rfl, by rw [hU]; exact hH.1, va_K.moved hW.alike hK⟩⟩ rfl hn hsize hstack (lv_room hW) hdg hf) hH.2 kk
  have hat := hH.1.2 i hi
  rw [he] at hat
  obtain ⟨r', hr', cell, q1, q2, q3, q4⟩ := hat
  cases hc.symm.trans hr'
  exact ⟨cell, q1, by rw [q3]; rfl, by rw [q2]; exact (hK.1 ci _ hc).2.1⟩
theorem qh_runS {ok : Option Value → (Nat → va_E) → Prop} (S : CallFix p m c cc nL s args Ts own) (hK : qh_K G s) (hH : qh_H G z M E H0 H locs) (hM : Met l y ws rm (qh_Pre G z M E As) (qh_Q G z M ok) 0 0 (fun q => z ≤ q)) (cw : CallB R s args own index y bytes maxL ret ws rm 0 0 n ∧ (Cond.static y).before args s = true)
    (hn : As.length = n) (hsize : ls.size = nL) (hstack : st0 = As.reverse ++ rest) (hW : (rest.map fun v => v.category).sum ≤ 8) (hdg : decode cc pc = .ok (.invokestatic index, 3)) (hf : cells ≤ R.cells ∧ slots ≤ R.slots)
    (kk : ∀ (v : Option Value) (E' : Nat → va_E) (H1 : Heap) (locs1 : List Loc), ok v E' → qh_H G z M E' H0 H1 locs1 → W p l e R s m args below meth c H1 locs1 cells slots Q (F0 m (pc + 3) ls (v.toList ++ rest))) : W p l e R s m args below meth c H locs cells slots Q (F0 m pc ls st0) :=
  qh_after (va_runS (As := As) (rest := rest) S hM cw ⟨qh_blind, fun U hU hW => ⟨rfl, by rw [hU]; exact hH.1, va_K.moved hW.alike hK⟩⟩ rfl hn hsize hstack (lv_room hW) hdg hf) hH.2 kk
theorem qh_kki {post : Int32 → (Nat → va_E) → Prop} (kk : ∀ (r : Int32) (E' : Nat → va_E) (H1 : Heap) (locs1 : List Loc), post r E' → qh_H G z M E' H0 H1 locs1 → W p l e R s m args below meth c H1 locs1 cells slots Q (F0 m pc ls (.int r :: rest))) : ∀ (v : Option Value) (E' : Nat → va_E) (H1 : Heap) (locs1 : List Loc), qh_i post v E' → qh_H G z M E' H0 H1 locs1 → W p l e R s m args below meth c H1 locs1 cells slots Q (F0 m pc ls (v.toList ++ rest)) := by
  rintro v E' H1 locs1 ⟨r, rfl, h⟩ hH
  exact kk r E' H1 locs1 h hH
theorem qh_kkl {post : Int64 → (Nat → va_E) → Prop} (kk : ∀ (r : Int64) (E' : Nat → va_E) (H1 : Heap) (locs1 : List Loc), post r E' → qh_H G z M E' H0 H1 locs1 → W p l e R s m args below meth c H1 locs1 cells slots Q (F0 m pc ls (.long r :: rest))) : ∀ (v : Option Value) (E' : Nat → va_E) (H1 : Heap) (locs1 : List Loc), qh_l post v E' → qh_H G z M E' H0 H1 locs1 → W p l e R s m args below meth c H1 locs1 cells slots Q (F0 m pc ls (v.toList ++ rest)) := by
  rintro v E' H1 locs1 ⟨r, rfl, h⟩ hH
  exact kk r E' H1 locs1 h hH
theorem qh_kkv {post : (Nat → va_E) → Prop} (kk : ∀ (E' : Nat → va_E) (H1 : Heap) (locs1 : List Loc), post E' → qh_H G z M E' H0 H1 locs1 → W p l e R s m args below meth c H1 locs1 cells slots Q (F0 m pc ls rest)) : ∀ (v : Option Value) (E' : Nat → va_E) (H1 : Heap) (locs1 : List Loc), qh_v post v E' → qh_H G z M E' H0 H1 locs1 → W p l e R s m args below meth c H1 locs1 cells slots Q (F0 m pc ls (v.toList ++ rest)) := by
  rintro v E' H1 locs1 ⟨rfl, h⟩ hH
  exact kk E' H1 locs1 h hH
theorem qh_kka {post : Value → (Nat → va_E) → Prop} (kk : ∀ (r : Value) (E' : Nat → va_E) (H1 : Heap) (locs1 : List Loc), post r E' → qh_H G z M E' H0 H1 locs1 → W p l e R s m args below meth c H1 locs1 cells slots Q (F0 m pc ls (r :: rest))) : ∀ (v : Option Value) (E' : Nat → va_E) (H1 : Heap) (locs1 : List Loc), qh_a post v E' → qh_H G z M E' H0 H1 locs1 → W p l e R s m args below meth c H1 locs1 cells slots Q (F0 m pc ls (v.toList ++ rest)) := by
  rintro v E' H1 locs1 ⟨r, rfl, h⟩ hH
  exact kk r E' H1 locs1 h hH
/-! ends -/
theorem qh_iret (hx : p.tables.exec = Jvm.exec) (hb : c.code = cc) (hr : meth.sig.returnType = some .int) (hlocks : meth.locks = false) (hH : qh_H G z M E s.heap H locs) {v : Int32} {post : Int32 → (Nat → va_E) → Prop} (hd : decode cc pc = .ok (.ireturn, 1)) (hp : post v E) : W p l e R s m args below meth c H locs cells slots (MQ below (qh_Q G z M (qh_i post)) args s cells slots (fun q => z ≤ q)) (F0 m pc ls [.int v]) :=
  W.iret hx hb hr (fun t ht _ => ⟨_, E, rfl, ⟨v, rfl, hp⟩, by rw [ht]; exact hH.1, hH.2.F ht⟩) hH.2.2.2 hd hlocks
theorem qh_zret (hx : p.tables.exec = Jvm.exec) (hb : c.code = cc) (hr : meth.sig.returnType = some .boolean) (hlocks : meth.locks = false) (hH : qh_H G z M E s.heap H locs) {v : Int32} {post : Int32 → (Nat → va_E) → Prop} (hd : decode cc pc = .ok (.ireturn, 1)) (hn : narrow .boolean (.int v) = .int v) (hp : post v E) : W p l e R s m args below meth c H locs cells slots (MQ below (qh_Q G z M (qh_i post)) args s cells slots (fun q => z ≤ q)) (F0 m pc ls [.int v]) :=
  W.zret hx hb hr hn (fun t ht _ => ⟨_, E, rfl, ⟨v, rfl, hp⟩, by rw [ht]; exact hH.1, hH.2.F ht⟩) hH.2.2.2 hd hlocks
theorem qh_lret (hx : p.tables.exec = Jvm.exec) (hb : c.code = cc) (hr : meth.sig.returnType = some .long) (hlocks : meth.locks = false) (hH : qh_H G z M E s.heap H locs) {v : Int64} {post : Int64 → (Nat → va_E) → Prop} (hd : decode cc pc = .ok (.lreturn, 1)) (hp : post v E) : W p l e R s m args below meth c H locs cells slots (MQ below (qh_Q G z M (qh_l post)) args s cells slots (fun q => z ≤ q)) (F0 m pc ls [.long v]) :=
  W.lret hx hb hr (fun t ht _ => ⟨_, E, rfl, ⟨v, rfl, hp⟩, by rw [ht]; exact hH.1, hH.2.F ht⟩) hH.2.2.2 hd hlocks
theorem qh_vret (hx : p.tables.exec = Jvm.exec) (hb : c.code = cc) (hr : meth.sig.returnType = none) (hlocks : meth.locks = false) (hH : qh_H G z M E s.heap H locs) {post : (Nat → va_E) → Prop} (hd : decode cc pc = .ok (.return_, 1)) (hp : post E) : W p l e R s m args below meth c H locs cells slots (MQ below (qh_Q G z M (qh_v post)) args s cells slots (fun q => z ≤ q)) (F0 m pc ls []) :=
  W.vret hx hb hr (fun t ht _ => ⟨_, E, rfl, ⟨rfl, hp⟩, by rw [ht]; exact hH.1, hH.2.F ht⟩) hH.2.2.2 hd hlocks
theorem qh_aret (hx : p.tables.exec = Jvm.exec) (hb : c.code = cc) {C : String} (hr : meth.sig.returnType = some (.object C)) (hlocks : meth.locks = false) (hH : qh_H G z M E s.heap H locs) {v : Value} (hv : v = .null ∨ ∃ a, v = .ref a) {post : Value → (Nat → va_E) → Prop} (hd : decode cc pc = .ok (.areturn, 1)) (hp : post v E) : W p l e R s m args below meth c H locs cells slots (MQ below (qh_Q G z M (qh_a post)) args s cells slots (fun q => z ≤ q)) (F0 m pc ls [v]) :=
  W.aret hx hb hr (Or.inl ⟨_, rfl⟩) hv (fun t ht _ => ⟨_, E, rfl, ⟨v, rfl, hp⟩, by rw [ht]; exact hH.1, hH.2.F ht⟩) hH.2.2.2 hd hlocks
/-! System.arraycopy -/
theorem qh_copyI (hx : p.tables.exec = Jvm.exec) (hb : c.code = cc) (hml : c.maxLocals = ls.size) {own : String} {index : Nat} (hown : s.vm.findClass own = some m.cls) (hlink : (Cond.methodLink own index arraycopyName).before args s = true) (hnat : (Cond.native arraycopyName).before args s = true) (hstat : (Cond.static arraycopyName).before args s = true) (hini : (Cond.initialized "java/lang/System").before args s = true) (hK : qh_K G s) (hH : qh_H G z M E H0 H locs) {i0 i1 : Nat} (h0 : i0 < M) (h1 : i1 < M) {n0 n1 : Nat} {f g : Nat → Int32} (he0 : E i0 = qa_I G n0 f) (he1 : E i1 = qa_I G n1 g)
    {x y k : Int32} {sp dp n : Nat} (hxs : x = nI sp) (hyd : y = nI dp) (hkn : k = nI n) (hs1 : sp + n ≤ n0) (hs2 : dp + n ≤ n1) (hb0 : n0 < 2 ^ 31) (hb1 : n1 < 2 ^ 31) (hframes : 1 ≤ R.frames) (hlocals : (rest.map fun v => v.category).sum + (nativeFrameWords "java/lang/System" "arraycopy" 5 + 11) ≤ R.locals) (hd : decode cc pc = .ok (.invokestatic index, 3))
    (kk : ∀ (E' : Nat → va_E) (H1 : Heap) (locs1 : List Loc), E' i1 = qa_I G n1 (va_cpy f g sp dp n) → (∀ j, j ≠ i1 → E' j = E j) → qh_H G z M E' H0 H1 locs1 → W p l e R s m args below meth c H1 locs1 cells slots Q (F0 m (pc + 3) ls rest)) : W p l e R s m args below meth c H locs cells slots Q (F0 m pc ls (.int k :: .int y :: .ref (z + i1) :: .int x :: .ref (z + i0) :: rest)) := by
  obtain ⟨hx1, hx2⟩ := (show ¬ x < 0 ∧ x.toNatClampNeg = sp by subst hxs; exact ⟨nI_pos (by omega), nI_clamp (by omega)⟩)
  obtain ⟨hy1, hy2⟩ := (show ¬ y < 0 ∧ y.toNatClampNeg = dp by subst hyd; exact ⟨nI_pos (by omega), nI_clamp (by omega)⟩)
  obtain ⟨hk1, hk2⟩ := (show ¬ k < 0 ∧ k.toNatClampNeg = n by subst hkn; exact ⟨nI_pos (by omega), nI_clamp (by omega)⟩)
  have hP : va_P G.1 vwCl ((List.range M).map fun i => (z + i, E i)) H := fun k q hq => by
    rw [List.getElem?_map] at hq
    cases hr : (List.range M)[k]? with
    | none => rw [hr] at hq; cases hq
    | some v =>
      rw [hr] at hq
      obtain ⟨hv1, hv2⟩ := List.getElem?_eq_some_iff.mp hr
      simp at hv1 hv2 hq
      subst hv2
      rw [← hq]
      exact hH.1.2 k hv1
  have hD : va_D (fun q => z ≤ q) ((List.range M).map fun i => (z + i, E i)) := by
    have at' : ∀ (k : Nat) (q : Nat × va_E), ((List.range M).map fun i => (z + i, E i))[k]? = some q → q.1 = z + k := fun k q hq => by
      rw [List.getElem?_map] at hq
      cases hr : (List.range M)[k]? with
      | none => rw [hr] at hq; cases hq
      | some v =>
        rw [hr] at hq
        obtain ⟨hv1, hv2⟩ := List.getElem?_eq_some_iff.mp hr
        simp at hv1 hv2 hq
        subst hv2
        rw [← hq]
    refine ⟨fun i j p q hp hq e => ?_, fun k q hq => ?_⟩
    · rw [at' i p hp, at' j q hq] at e
      omega
    · rw [at' k q hq]
      exact Nat.le_add_right z k
  have hg : ∀ i, i < M → ((List.range M).map fun i => (z + i, E i))[i]? = some (z + i, E i) := fun i hi => by
    rw [List.getElem?_map, List.getElem?_range hi]
    rfl
  refine va_copyi hx hb hml hown hlink hnat hstat hini hK hP hD hH.2 i0 i1 0 0 (by rw [hg i0 h0, he0]; rfl) (by rw [hg i1 h1, he1]; rfl) rfl rfl rfl hx1 hy1 hk1 (by rw [hx2, hk2]; exact hs1) (by rw [hy2, hk2]; exact hs2) (fun _ _ => rfl) hframes hlocals hd (fun H1 locs1 hP1 hD1 hS1 => ?_)
  rw [hx2, hy2, hk2] at hP1
  have hat : ∀ j, j < M → va_at G.1 vwCl (z + j, (va_up E i1 (qa_I G n1 (va_cpy f g sp dp n))) j) H1 := fun j hj => by
    refine hP1 j _ ?_
    by_cases hji : j = i1
    · subst hji
      rw [va_up_self, List.getElem?_set_self (by simp; exact hj)]
      rfl
    · rw [va_up_ne _ _ hji, List.getElem?_set_ne (Ne.symm hji)]
      exact hg j hj
  refine kk _ H1 locs1 (va_up_self ..) (fun j hj => va_up_ne _ _ hj) ⟨⟨?_, hat⟩, hS1⟩
  have h3 := (hat (M - 1) (by omega)).lt
  have h3 : z + (M - 1) < H1.size := h3
  omega
theorem qh_copyJ (hx : p.tables.exec = Jvm.exec) (hb : c.code = cc) (hml : c.maxLocals = ls.size) {own : String} {index : Nat} (hown : s.vm.findClass own = some m.cls) (hlink : (Cond.methodLink own index arraycopyName).before args s = true) (hnat : (Cond.native arraycopyName).before args s = true) (hstat : (Cond.static arraycopyName).before args s = true) (hini : (Cond.initialized "java/lang/System").before args s = true) (hK : qh_K G s) (hH : qh_H G z M E H0 H locs) {i0 i1 : Nat} (h0 : i0 < M) (h1 : i1 < M) {n0 n1 : Nat} {f g : Nat → Int64} (he0 : E i0 = qa_J G n0 f) (he1 : E i1 = qa_J G n1 g)
    {x y k : Int32} {sp dp n : Nat} (hxs : x = nI sp) (hyd : y = nI dp) (hkn : k = nI n) (hs1 : sp + n ≤ n0) (hs2 : dp + n ≤ n1) (hb0 : n0 < 2 ^ 31) (hb1 : n1 < 2 ^ 31) (hframes : 1 ≤ R.frames) (hlocals : (rest.map fun v => v.category).sum + (nativeFrameWords "java/lang/System" "arraycopy" 5 + 11) ≤ R.locals) (hd : decode cc pc = .ok (.invokestatic index, 3))
    (kk : ∀ (E' : Nat → va_E) (H1 : Heap) (locs1 : List Loc), E' i1 = qa_J G n1 (va_cpy f g sp dp n) → (∀ j, j ≠ i1 → E' j = E j) → qh_H G z M E' H0 H1 locs1 → W p l e R s m args below meth c H1 locs1 cells slots Q (F0 m (pc + 3) ls rest)) : W p l e R s m args below meth c H locs cells slots Q (F0 m pc ls (.int k :: .int y :: .ref (z + i1) :: .int x :: .ref (z + i0) :: rest)) := by
  obtain ⟨hx1, hx2⟩ := (show ¬ x < 0 ∧ x.toNatClampNeg = sp by subst hxs; exact ⟨nI_pos (by omega), nI_clamp (by omega)⟩)
  obtain ⟨hy1, hy2⟩ := (show ¬ y < 0 ∧ y.toNatClampNeg = dp by subst hyd; exact ⟨nI_pos (by omega), nI_clamp (by omega)⟩)
  obtain ⟨hk1, hk2⟩ := (show ¬ k < 0 ∧ k.toNatClampNeg = n by subst hkn; exact ⟨nI_pos (by omega), nI_clamp (by omega)⟩)
  have hP : va_P G.1 vwCl ((List.range M).map fun i => (z + i, E i)) H := fun k q hq => by
    rw [List.getElem?_map] at hq
    cases hr : (List.range M)[k]? with
    | none => rw [hr] at hq; cases hq
    | some v =>
      rw [hr] at hq
      obtain ⟨hv1, hv2⟩ := List.getElem?_eq_some_iff.mp hr
      simp at hv1 hv2 hq
      subst hv2
      rw [← hq]
      exact hH.1.2 k hv1
  have hD : va_D (fun q => z ≤ q) ((List.range M).map fun i => (z + i, E i)) := by
    have at' : ∀ (k : Nat) (q : Nat × va_E), ((List.range M).map fun i => (z + i, E i))[k]? = some q → q.1 = z + k := fun k q hq => by
      rw [List.getElem?_map] at hq
      cases hr : (List.range M)[k]? with
      | none => rw [hr] at hq; cases hq
      | some v =>
        rw [hr] at hq
        obtain ⟨hv1, hv2⟩ := List.getElem?_eq_some_iff.mp hr
        simp at hv1 hv2 hq
        subst hv2
        rw [← hq]
    refine ⟨fun i j p q hp hq e => ?_, fun k q hq => ?_⟩
    · rw [at' i p hp, at' j q hq] at e
      omega
    · rw [at' k q hq]
      exact Nat.le_add_right z k
  have hg : ∀ i, i < M → ((List.range M).map fun i => (z + i, E i))[i]? = some (z + i, E i) := fun i hi => by
    rw [List.getElem?_map, List.getElem?_range hi]
    rfl
  refine va_copyl hx hb hml hown hlink hnat hstat hini hK hP hD hH.2 i0 i1 1 1 (by rw [hg i0 h0, he0]; rfl) (by rw [hg i1 h1, he1]; rfl) rfl rfl rfl hx1 hy1 hk1 (by rw [hx2, hk2]; exact hs1) (by rw [hy2, hk2]; exact hs2) (fun _ _ => rfl) hframes hlocals hd (fun H1 locs1 hP1 hD1 hS1 => ?_)
  rw [hx2, hy2, hk2] at hP1
  have hat : ∀ j, j < M → va_at G.1 vwCl (z + j, (va_up E i1 (qa_J G n1 (va_cpy f g sp dp n))) j) H1 := fun j hj => by
    refine hP1 j _ ?_
    by_cases hji : j = i1
    · subst hji
      rw [va_up_self, List.getElem?_set_self (by simp; exact hj)]
      rfl
    · rw [va_up_ne _ _ hji, List.getElem?_set_ne (Ne.symm hji)]
      exact hg j hj
  refine kk _ H1 locs1 (va_up_self ..) (fun j hj => va_up_ne _ _ hj) ⟨⟨?_, hat⟩, hS1⟩
  have h3 := (hat (M - 1) (by omega)).lt
  have h3 : z + (M - 1) < H1.size := h3
  omega
end QHC
end
section
/-! THE BEGINNING OF A CONTRACT: room, end and arguments are variables in the body; what an end asks for comes as a hypothesis -/
def qh_End (p : Program) (l : Launch) (e : Env) (RR : Room) (s : State) (m : MethodId) (args : Array Value) (below : List Frame) (meth : Method) (c : Code) (G : qh_G) (z M : Nat) (cc : ByteArray) (QQ : State → Prop) (op : Instr) (mk : List Value → Option Value → Prop) (ok : Option Value → (Nat → va_E) → Prop) : Prop :=
  ∀ {H : Heap} {locs : List Loc} {pc : Nat} {ls : Array Slot} {st : List Value} {v : Option Value} {E : Nat → va_E}, decode cc pc = .ok (op, 1) → qh_H G z M E s.heap H locs → mk st v → ok v E → W p l e RR s m args below meth c H locs 0 0 QQ (F0 m pc ls st)
theorem qh_met {l : Launch} {G : qh_G} {z M d : Nat} {E : Nat → va_E} {y : MethodName} {ws ws' : List Cond} {cc : ByteArray} {maxL : Nat} {ret : Option FieldType} {av : List Value} {ok : Option Value → (Nat → va_E) → Prop} {op : Instr} {mk : List Value → Option Value → Prop} (hy : plainName y.cls = true) (hw : ws = Cond.code y cc maxL ret :: ws') (hn : (lg_sl av).length ≤ maxL)
    (hend : ∀ (p : Program) (e : Env) (s : State) (m : MethodId) (args : Array Value) (below : List Frame) (meth : Method) (c : Code) (RR : Room), p.tables.exec = Jvm.exec → c.code = cc → meth.sig.returnType = ret → meth.locks = false → qh_End p l e RR s m args below meth c G z M cc (MQ below (qh_Q G z M ok) args s 0 0 (fun q => z ≤ q)) op mk ok)
    (body : ∀ (p : Program) (e : Env) (s : State) (m : MethodId) (args : Array Value) (below : List Frame) (meth : Method) (c : Code) (RR : Room) (QQ : State → Prop) (ls : Array Slot), p.tables.exec = Jvm.exec → c.code = cc → c.maxLocals = maxL → s.vm.findClass y.cls = some m.cls → (∀ w ∈ ws, w.before args s = true) → RR.frames = d → RR.locals = 40 * d → qh_H G z M E s.heap s.heap [] → qh_K G s → lv_has ls maxL (lv_args 0 av) → qh_End p l e RR s m args below meth c G z M cc QQ op mk ok →
      W p l e RR s m args below meth c s.heap [] 0 0 QQ (F0 m 0 ls [])) : Met l y ws (qh_R d) (qh_Pre G z M E av) (qh_Q G z M ok) 0 0 (fun q => z ≤ q) := by
  refine Met.ofW (cc := cc) (maxL := maxL) (ret := ret) hy hw ?_
  intro p e s m args below meth c s₁ B hml hv
  obtain ⟨rfl, hP, hK⟩ := hv
  have hts := atoms_spec (ws := ws) B.pre
  have hl := lv_entry av (n := maxL) hn
  rw [lg_entry_eq]
  exact body p e s m av.toArray below meth c (headSpec ws (qh_R d)).room _ _ B.exec B.bytes hml (findClass_of_methodNamed B.named) hts rfl rfl (qh_H.start hP) hK hl (hend p e s m av.toArray below meth c _ B.exec B.bytes B.returns B.notSynchronized)
def qh_mi (st : List Value) (v : Option Value) : Prop := ∃ r : Int32, st = [.int r] ∧ v = some (.int r)
def qh_mz (st : List Value) (v : Option Value) : Prop := ∃ r : Int32, st = [.int r] ∧ v = some (.int r) ∧ (r = 0 ∨ r = 1)
def qh_ml (st : List Value) (v : Option Value) : Prop := ∃ r : Int64, st = [.long r] ∧ v = some (.long r)
def qh_mv (st : List Value) (v : Option Value) : Prop := st = [] ∧ v = none
def qh_ma (st : List Value) (v : Option Value) : Prop := ∃ r : Value, st = [r] ∧ v = some r ∧ (r = .null ∨ ∃ a, r = .ref a)
section QHM
variable {l : Launch} {G : qh_G} {z M d : Nat} {E : Nat → va_E} {y : MethodName} {ws ws' : List Cond} {cc : ByteArray} {maxL : Nat} {av : List Value}
theorem qh_metI {post : Int32 → (Nat → va_E) → Prop} (hy : plainName y.cls = true) (hw : ws = Cond.code y cc maxL (some .int) :: ws') (hn : (lg_sl av).length ≤ maxL)
    (body : ∀ (p : Program) (e : Env) (s : State) (m : MethodId) (args : Array Value) (below : List Frame) (meth : Method) (c : Code) (RR : Room) (QQ : State → Prop) (ls : Array Slot), p.tables.exec = Jvm.exec → c.code = cc → c.maxLocals = maxL → s.vm.findClass y.cls = some m.cls → (∀ w ∈ ws, w.before args s = true) → RR.frames = d → RR.locals = 40 * d → qh_H G z M E s.heap s.heap [] → qh_K G s → lv_has ls maxL (lv_args 0 av) → (∀ {H : Heap} {locs : List Loc} {pc : Nat} {ls : Array Slot} {r : Int32} {E : Nat → va_E}, decode cc pc = .ok (.ireturn, 1) → qh_H G z M E s.heap H locs → post r E → W p l e RR s m args below meth c H locs 0 0 QQ (F0 m pc ls [.int r])) →
      W p l e RR s m args below meth c s.heap [] 0 0 QQ (F0 m 0 ls [])) : Met l y ws (qh_R d) (qh_Pre G z M E av) (qh_Q G z M (qh_i post)) 0 0 (fun q => z ≤ q) := by
  refine qh_met (op := .ireturn) (mk := qh_mi) hy hw hn (fun p e s m args below meth c RR hx hb hr hlk => ?_) (fun p e s m args below meth c RR QQ ls hx hb hml ho hts h1 h2 hH hK hl hE => body p e s m args below meth c RR QQ ls hx hb hml ho hts h1 h2 hH hK hl (fun hd hH hp => hE hd hH ⟨_, rfl, rfl⟩ ⟨_, rfl, hp⟩))
  rintro H locs pc ls st v E hd hH ⟨r, rfl, rfl⟩ ⟨r', e1, hp⟩
  cases e1
  exact qh_iret hx hb hr hlk hH hd hp
theorem qh_metZ {post : Int32 → (Nat → va_E) → Prop} (hy : plainName y.cls = true) (hw : ws = Cond.code y cc maxL (some .boolean) :: ws') (hn : (lg_sl av).length ≤ maxL)
    (body : ∀ (p : Program) (e : Env) (s : State) (m : MethodId) (args : Array Value) (below : List Frame) (meth : Method) (c : Code) (RR : Room) (QQ : State → Prop) (ls : Array Slot), p.tables.exec = Jvm.exec → c.code = cc → c.maxLocals = maxL → s.vm.findClass y.cls = some m.cls → (∀ w ∈ ws, w.before args s = true) → RR.frames = d → RR.locals = 40 * d → qh_H G z M E s.heap s.heap [] → qh_K G s → lv_has ls maxL (lv_args 0 av) → (∀ {H : Heap} {locs : List Loc} {pc : Nat} {ls : Array Slot} {r : Int32} {E : Nat → va_E}, decode cc pc = .ok (.ireturn, 1) → qh_H G z M E s.heap H locs → r = 0 ∨ r = 1 → post r E → W p l e RR s m args below meth c H locs 0 0 QQ (F0 m pc ls [.int r])) →
      W p l e RR s m args below meth c s.heap [] 0 0 QQ (F0 m 0 ls [])) : Met l y ws (qh_R d) (qh_Pre G z M E av) (qh_Q G z M (qh_i post)) 0 0 (fun q => z ≤ q) := by
  refine qh_met (op := .ireturn) (mk := qh_mz) hy hw hn (fun p e s m args below meth c RR hx hb hr hlk => ?_) (fun p e s m args below meth c RR QQ ls hx hb hml ho hts h1 h2 hH hK hl hE => body p e s m args below meth c RR QQ ls hx hb hml ho hts h1 h2 hH hK hl (fun hd hH h01 hp => hE hd hH ⟨_, rfl, rfl, h01⟩ ⟨_, rfl, hp⟩))
  rintro H locs pc ls st v E hd hH ⟨r, rfl, rfl, h01⟩ ⟨r', e1, hp⟩
  cases e1
  exact qh_zret hx hb hr hlk hH hd (by rcases h01 with rfl | rfl <;> rfl) hp
theorem qh_metL {post : Int64 → (Nat → va_E) → Prop} (hy : plainName y.cls = true) (hw : ws = Cond.code y cc maxL (some .long) :: ws') (hn : (lg_sl av).length ≤ maxL)
    (body : ∀ (p : Program) (e : Env) (s : State) (m : MethodId) (args : Array Value) (below : List Frame) (meth : Method) (c : Code) (RR : Room) (QQ : State → Prop) (ls : Array Slot), p.tables.exec = Jvm.exec → c.code = cc → c.maxLocals = maxL → s.vm.findClass y.cls = some m.cls → (∀ w ∈ ws, w.before args s = true) → RR.frames = d → RR.locals = 40 * d → qh_H G z M E s.heap s.heap [] → qh_K G s → lv_has ls maxL (lv_args 0 av) → (∀ {H : Heap} {locs : List Loc} {pc : Nat} {ls : Array Slot} {r : Int64} {E : Nat → va_E}, decode cc pc = .ok (.lreturn, 1) → qh_H G z M E s.heap H locs → post r E → W p l e RR s m args below meth c H locs 0 0 QQ (F0 m pc ls [.long r])) →
      W p l e RR s m args below meth c s.heap [] 0 0 QQ (F0 m 0 ls [])) : Met l y ws (qh_R d) (qh_Pre G z M E av) (qh_Q G z M (qh_l post)) 0 0 (fun q => z ≤ q) := by
  refine qh_met (op := .lreturn) (mk := qh_ml) hy hw hn (fun p e s m args below meth c RR hx hb hr hlk => ?_) (fun p e s m args below meth c RR QQ ls hx hb hml ho hts h1 h2 hH hK hl hE => body p e s m args below meth c RR QQ ls hx hb hml ho hts h1 h2 hH hK hl (fun hd hH hp => hE hd hH ⟨_, rfl, rfl⟩ ⟨_, rfl, hp⟩))
  rintro H locs pc ls st v E hd hH ⟨r, rfl, rfl⟩ ⟨r', e1, hp⟩
  cases e1
  exact qh_lret hx hb hr hlk hH hd hp
theorem qh_metV {post : (Nat → va_E) → Prop} (hy : plainName y.cls = true) (hw : ws = Cond.code y cc maxL none :: ws') (hn : (lg_sl av).length ≤ maxL)
    (body : ∀ (p : Program) (e : Env) (s : State) (m : MethodId) (args : Array Value) (below : List Frame) (meth : Method) (c : Code) (RR : Room) (QQ : State → Prop) (ls : Array Slot), p.tables.exec = Jvm.exec → c.code = cc → c.maxLocals = maxL → s.vm.findClass y.cls = some m.cls → (∀ w ∈ ws, w.before args s = true) → RR.frames = d → RR.locals = 40 * d → qh_H G z M E s.heap s.heap [] → qh_K G s → lv_has ls maxL (lv_args 0 av) → (∀ {H : Heap} {locs : List Loc} {pc : Nat} {ls : Array Slot} {E : Nat → va_E}, decode cc pc = .ok (.return_, 1) → qh_H G z M E s.heap H locs → post E → W p l e RR s m args below meth c H locs 0 0 QQ (F0 m pc ls [])) →
      W p l e RR s m args below meth c s.heap [] 0 0 QQ (F0 m 0 ls [])) : Met l y ws (qh_R d) (qh_Pre G z M E av) (qh_Q G z M (qh_v post)) 0 0 (fun q => z ≤ q) := by
  refine qh_met (op := .return_) (mk := qh_mv) hy hw hn (fun p e s m args below meth c RR hx hb hr hlk => ?_) (fun p e s m args below meth c RR QQ ls hx hb hml ho hts h1 h2 hH hK hl hE => body p e s m args below meth c RR QQ ls hx hb hml ho hts h1 h2 hH hK hl (fun hd hH hp => hE hd hH ⟨rfl, rfl⟩ ⟨rfl, hp⟩))
  rintro H locs pc ls st v E hd hH ⟨rfl, rfl⟩ ⟨e1, hp⟩
  exact qh_vret hx hb hr hlk hH hd hp
theorem qh_metA {C : String} {post : Value → (Nat → va_E) → Prop} (hy : plainName y.cls = true) (hw : ws = Cond.code y cc maxL (some (.object C)) :: ws') (hn : (lg_sl av).length ≤ maxL)
    (body : ∀ (p : Program) (e : Env) (s : State) (m : MethodId) (args : Array Value) (below : List Frame) (meth : Method) (c : Code) (RR : Room) (QQ : State → Prop) (ls : Array Slot), p.tables.exec = Jvm.exec → c.code = cc → c.maxLocals = maxL → s.vm.findClass y.cls = some m.cls → (∀ w ∈ ws, w.before args s = true) → RR.frames = d → RR.locals = 40 * d → qh_H G z M E s.heap s.heap [] → qh_K G s → lv_has ls maxL (lv_args 0 av) → (∀ {H : Heap} {locs : List Loc} {pc : Nat} {ls : Array Slot} {r : Value} {E : Nat → va_E}, decode cc pc = .ok (.areturn, 1) → qh_H G z M E s.heap H locs → (r = .null ∨ ∃ a, r = .ref a) → post r E → W p l e RR s m args below meth c H locs 0 0 QQ (F0 m pc ls [r])) →
      W p l e RR s m args below meth c s.heap [] 0 0 QQ (F0 m 0 ls [])) : Met l y ws (qh_R d) (qh_Pre G z M E av) (qh_Q G z M (qh_a post)) 0 0 (fun q => z ≤ q) := by
  refine qh_met (op := .areturn) (mk := qh_ma) hy hw hn (fun p e s m args below meth c RR hx hb hr hlk => ?_) (fun p e s m args below meth c RR QQ ls hx hb hml ho hts h1 h2 hH hK hl hE => body p e s m args below meth c RR QQ ls hx hb hml ho hts h1 h2 hH hK hl (fun hd hH hr hp => hE hd hH ⟨_, rfl, rfl, hr⟩ ⟨_, rfl, hp⟩))
  rintro H locs pc ls st v E hd hH ⟨r, rfl, rfl, hr2⟩ ⟨r', e1, hp⟩
  cases e1
  exact qh_aret hx hb hr hlk hH hr2 hd hp
end QHM
/-! truth values as ints -/
def bI (c : Prop) [Decidable c] : Int32 := if c then 1 else 0
theorem bI_ne {c : Prop} [Decidable c] : ¬ bI c = 0 ↔ c := by
  unfold bI
  split <;> simp_all
theorem bI_eq {c : Prop} [Decidable c] : bI c = 0 ↔ ¬ c := by
  unfold bI
  split <;> simp_all
theorem bI_t {c : Prop} [Decidable c] (h : c) : bI c = 1 := if_pos h
theorem bI_f {c : Prop} [Decidable c] (h : ¬ c) : bI c = 0 := if_neg h
theorem bI_01 {c : Prop} [Decidable c] : bI c = 0 ∨ bI c = 1 := by
  unfold bI
  split <;> simp
theorem bI_1 {c : Prop} [Decidable c] (h : c) : (1 : Int32) = bI c := (bI_t h).symm
theorem bI_0 {c : Prop} [Decidable c] (h : ¬ c) : (0 : Int32) = bI c := (bI_f h).symm
theorem qn_inc (k : Nat) : nI k + Int32.ofInt 1 = nI (k + 1) := nI_1 k
theorem qn_inc6 (k : Nat) : nI k + Int32.ofInt 6 = nI (k + 6) := by
  rw [← nI_add]; rfl
section QHT
variable {p : Program} {l : Launch} {e : Env} {R : Room} {s : State} {m : MethodId} {args : Array Value} {below : List Frame} {meth : Method} {c : Code} {H : Heap} {locs : List Loc} {cells slots : Nat} {Q : State → Prop} {pc : Nat} {ls : Array Slot} {rest : List Value}
theorem qh_topi {x y : Int32} (h : x = y) (k : W p l e R s m args below meth c H locs cells slots Q (F0 m pc ls (.int y :: rest))) : W p l e R s m args below meth c H locs cells slots Q (F0 m pc ls (.int x :: rest)) := by rw [h]; exact k
theorem qh_topl {x y : Int64} (h : x = y) (k : W p l e R s m args below meth c H locs cells slots Q (F0 m pc ls (.long y :: rest))) : W p l e R s m args below meth c H locs cells slots Q (F0 m pc ls (.long x :: rest)) := by rw [h]; exact k
end QHT
theorem lg_cmp_ne (x y : Int64) : (¬ lg_cmp x y = 0) ↔ ¬ x = y := not_congr (lg_cmp_eq x y)
end
section
/-! pure words: numbers of 64 bits, what is known of a run of them -/
theorem i64_lt {x y : Int64} : x < y ↔ x.toInt < y.toInt := Int64.lt_iff_toInt_lt
theorem i64_le {x y : Int64} : x ≤ y ↔ x.toInt ≤ y.toInt := Int64.le_iff_toInt_le
theorem i64_eq {x y : Int64} : x = y ↔ x.toInt = y.toInt := Int64.toInt_inj.symm
theorem i32_lt {x y : Int32} : x < y ↔ x.toInt < y.toInt := Int32.lt_iff_toInt_lt
theorem i32_le {x y : Int32} : x ≤ y ↔ x.toInt ≤ y.toInt := Int32.le_iff_toInt_le
theorem i32_eq {x y : Int32} : x = y ↔ x.toInt = y.toInt := Int32.toInt_inj.symm
def mx (x y : Int64) : Int64 := if x < y then y else x
def mn (x y : Int64) : Int64 := if y < x then y else x
theorem mx_cls (x y : Int64) : (if y < x then x else y) = mx x y := by
  unfold mx
  split <;> split
  · rename_i h1 h2
    rw [i64_lt] at h1 h2
    omega
  · rfl
  · rfl
  · rename_i h1 h2
    rw [i64_lt] at h1 h2
    rw [i64_eq]
    omega
theorem mn_cls (x y : Int64) : (if x < y then x else y) = mn x y := by
  unfold mn
  split <;> split
  · rename_i h1 h2
    rw [i64_lt] at h1 h2
    omega
  · rfl
  · rfl
  · rename_i h1 h2
    rw [i64_lt] at h1 h2
    rw [i64_eq]
    omega
theorem mx_self (x : Int64) : mx x x = x := by
  unfold mx
  split <;> rfl
theorem mn_self (x : Int64) : mn x x = x := by
  unfold mn
  split <;> rfl
def LOSTv : Int64 := -9223372036854775808
def sumR (f : Nat → Int64) (a : Nat) : Nat → Int64
  | 0 => 0
  | n + 1 => sumR f a n + f (a + n)
def maxR (f : Nat → Int64) (a : Nat) : Nat → Int64
  | 0 => f a
  | n + 1 => mx (maxR f a n) (f (a + (n + 1)))
def minR (f : Nat → Int64) (a : Nat) : Nat → Int64
  | 0 => f a
  | n + 1 => mn (minR f a n) (f (a + (n + 1)))
def secR (f : Nat → Int64) (g : Int64) (a : Nat) : Nat → Int64
  | 0 => LOSTv
  | n + 1 => if f (a + n) < g then mx (secR f g a n) (f (a + n)) else secR f g a n
/-- how many of n places from a on -/
def cntR (q : Nat → Bool) (a : Nat) : Nat → Nat
  | 0 => 0
  | n + 1 => cntR q a n + (if q (a + n) then 1 else 0)
/-- whether x stands among n places from a on -/
def anyR (f : Nat → Int64) (x : Int64) (a : Nat) : Nat → Bool
  | 0 => false
  | n + 1 => anyR f x a n || decide (f (a + n) = x)
def unlR (f : Nat → Int64) (a n : Nat) : Nat := cntR (fun k => !anyR f (f k) a (k - a)) a n
theorem cntR_le (q : Nat → Bool) (a : Nat) : ∀ n, cntR q a n ≤ n
  | 0 => Nat.le_refl 0
  | n + 1 => by
    have := cntR_le q a n
    show cntR q a n + _ ≤ n + 1
    split <;> omega
theorem cntR_cong {q q' : Nat → Bool} {a : Nat} : ∀ {n : Nat}, (∀ k, a ≤ k → k < a + n → q k = q' k) → cntR q a n = cntR q' a n
  | 0, _ => rfl
  | n + 1, h => by
    show cntR q a n + _ = cntR q' a n + _
    rw [cntR_cong (n := n) (fun k h1 h2 => h k h1 (by omega)), h (a + n) (by omega) (by omega)]
theorem cntR_succ (q : Nat → Bool) (a n : Nat) : cntR q a (n + 1) = cntR q a n + (if q (a + n) then 1 else 0) := rfl
theorem sumR_cong {f f' : Nat → Int64} {a : Nat} : ∀ {n : Nat}, (∀ k, a ≤ k → k < a + n → f k = f' k) → sumR f a n = sumR f' a n
  | 0, _ => rfl
  | n + 1, h => by
    show sumR f a n + _ = sumR f' a n + _
    rw [sumR_cong (n := n) (fun k h1 h2 => h k h1 (by omega)), h (a + n) (by omega) (by omega)]
theorem maxR_cong {f f' : Nat → Int64} {a : Nat} : ∀ {n : Nat}, (∀ k, a ≤ k → k ≤ a + n → f k = f' k) → maxR f a n = maxR f' a n
  | 0, h => h a (Nat.le_refl a) (Nat.le_refl a)
  | n + 1, h => by
    show mx (maxR f a n) _ = mx (maxR f' a n) _
    rw [maxR_cong (n := n) (fun k h1 h2 => h k h1 (by omega)), h (a + (n + 1)) (by omega) (by omega)]
theorem minR_cong {f f' : Nat → Int64} {a : Nat} : ∀ {n : Nat}, (∀ k, a ≤ k → k ≤ a + n → f k = f' k) → minR f a n = minR f' a n
  | 0, h => h a (Nat.le_refl a) (Nat.le_refl a)
  | n + 1, h => by
    show mn (minR f a n) _ = mn (minR f' a n) _
    rw [minR_cong (n := n) (fun k h1 h2 => h k h1 (by omega)), h (a + (n + 1)) (by omega) (by omega)]
theorem secR_cong {f f' : Nat → Int64} {g : Int64} {a : Nat} : ∀ {n : Nat}, (∀ k, a ≤ k → k < a + n → f k = f' k) → secR f g a n = secR f' g a n
  | 0, _ => rfl
  | n + 1, h => by
    show (if f (a + n) < g then mx (secR f g a n) (f (a + n)) else secR f g a n) = _
    rw [secR_cong (n := n) (fun k h1 h2 => h k h1 (by omega)), h (a + n) (by omega) (by omega)]
    rfl
theorem anyR_cong {f f' : Nat → Int64} {x : Int64} {a : Nat} : ∀ {n : Nat}, (∀ k, a ≤ k → k < a + n → f k = f' k) → anyR f x a n = anyR f' x a n
  | 0, _ => rfl
  | n + 1, h => by
    show (anyR f x a n || _) = (anyR f' x a n || _)
    rw [anyR_cong (n := n) (fun k h1 h2 => h k h1 (by omega)), h (a + n) (by omega) (by omega)]
theorem unlR_cong {f f' : Nat → Int64} {a n : Nat} (h : ∀ k, a ≤ k → k < a + n → f k = f' k) : unlR f a n = unlR f' a n := by
  refine cntR_cong (fun k h1 h2 => ?_)
  rw [h k h1 h2, anyR_cong (f' := f') (fun j h3 h4 => h j h3 (by omega))]
theorem mx_ge_l (x y : Int64) : x ≤ mx x y := by
  unfold mx
  split
  · rename_i h
    rw [i64_lt] at h
    rw [i64_le]
    omega
  · rw [i64_le]
    omega
theorem mx_ge_r (x y : Int64) : y ≤ mx x y := by
  unfold mx
  split
  · rw [i64_le]
    omega
  · rename_i h
    rw [i64_lt] at h
    rw [i64_le]
    omega
theorem maxR_ge (f : Nat → Int64) (a : Nat) : ∀ n k, a ≤ k → k ≤ a + n → f k ≤ maxR f a n
  | 0, k, h1, h2 => by
    have : k = a := by omega
    subst this
    rw [i64_le]
    show (f k).toInt ≤ (f k).toInt
    omega
  | n + 1, k, h1, h2 => by
    by_cases h : k = a + (n + 1)
    · subst h
      exact mx_ge_r _ _
    · have h3 := maxR_ge f a n k h1 (by omega)
      have h4 := mx_ge_l (maxR f a n) (f (a + (n + 1)))
      show f k ≤ mx (maxR f a n) (f (a + (n + 1)))
      rw [i64_le] at h3 h4 ⊢
      omega
/-- a number behind an act of a sort: 1 CAP, 2 FLOOR, else ADD -/
def chg (x : Int64) (t : Int32) (y : Int64) : Int64 := if t = 1 then mn x y else if t = 2 then mx x y else x + y
def actF (f : Nat → Int64) (t : Int32) (y : Int64) (a n : Nat) : Nat → Int64 := fun k => if a ≤ k ∧ k < a + n then chg (f k) t y else f k
def hisF (h f : Nat → Int64) (t : Int32) (y : Int64) (a n : Nat) : Nat → Int64 := fun k => if a ≤ k ∧ k < a + n then mx (h k) (chg (f k) t y) else h k
theorem actF_0 (f : Nat → Int64) (t : Int32) (y : Int64) (a : Nat) : actF f t y a 0 = f := by
  funext k
  simp only [actF]
  rw [if_neg (by omega)]
theorem hisF_0 (h f : Nat → Int64) (t : Int32) (y : Int64) (a : Nat) : hisF h f t y a 0 = h := by
  funext k
  simp only [hisF]
  rw [if_neg (by omega)]
theorem actF_at (f : Nat → Int64) (t : Int32) (y : Int64) (a n : Nat) : actF f t y a n (a + n) = f (a + n) := by
  simp only [actF]
  rw [if_neg (by omega)]
theorem hisF_at (h f : Nat → Int64) (t : Int32) (y : Int64) (a n : Nat) : hisF h f t y a n (a + n) = h (a + n) := by
  simp only [hisF]
  rw [if_neg (by omega)]
theorem actF_s (f : Nat → Int64) (t : Int32) (y : Int64) (a n : Nat) : vp_updL (actF f t y a n) (a + n) (chg (f (a + n)) t y) = actF f t y a (n + 1) := by
  funext k
  simp only [vp_updL, actF]
  by_cases h : k = a + n
  · subst h
    rw [if_pos rfl, if_pos (by omega)]
  · rw [if_neg h]
    by_cases h2 : a ≤ k ∧ k < a + n
    · rw [if_pos h2, if_pos (by omega)]
    · rw [if_neg h2, if_neg (by omega)]
theorem hisF_s (h f : Nat → Int64) (t : Int32) (y : Int64) (a n : Nat) : vp_updL (hisF h f t y a n) (a + n) (mx (h (a + n)) (chg (f (a + n)) t y)) = hisF h f t y a (n + 1) := by
  funext k
  simp only [vp_updL, hisF]
  by_cases h1 : k = a + n
  · subst h1
    rw [if_pos rfl, if_pos (by omega)]
  · rw [if_neg h1]
    by_cases h2 : a ≤ k ∧ k < a + n
    · rw [if_pos h2, if_pos (by omega)]
    · rw [if_neg h2, if_neg (by omega)]
/-! the strength of a helper -/
def stv (k p : Int32) : Int32 := if k = 1 then p + 1 else if k = 2 then 2 * p else p
/-- a long between 0 and a small count -/
theorem lN_of {h : Int64} {c : Nat} (hc : c < 2 ^ 31) (h1 : ¬ h < 0 ∧ h < (nI c).toInt64) : ∃ j : Nat, j < c ∧ h = lN j := by
  obtain ⟨k, hk, rfl⟩ := pk_lOf h1.1
  rw [nI_l hc] at h1
  exact ⟨k, (pk_lLT hk (by omega)).mp h1.2, rfl⟩
theorem nI_of_in {k : Int32} {c : Nat} (hc : c < 2 ^ 31) (h1 : ¬ k < 0 ∧ k < nI c) : ∃ j : Nat, j < c ∧ k = nI j := by
  obtain ⟨j, hj, rfl⟩ := nI_of h1.1
  exact ⟨j, (nI_ltI hj hc).mp h1.2, rfl⟩
theorem nI_has {j c : Nat} (hj : j < c) (hc : c < 2 ^ 31) : ¬ nI j < 0 ∧ nI j < nI c := ⟨nI_pos (by omega), nI_lt hj hc⟩
theorem lN_has {j c : Nat} (hj : j < c) (hc : c < 2 ^ 31) : ¬ lN j < 0 ∧ lN j < (nI c).toInt64 := by
  rw [nI_l hc]
  refine ⟨?_, (pk_lLT (by omega) (by omega)).mpr hj⟩
  rw [i64_lt, pk_lT (by omega)]
  show ¬ ((j : Int) < 0)
  omega
/-! cells that hold the same -/
theorem qh_renI {G : qh_G} {z M i n : Nat} {E E1 : Nat → va_E} {H0 H : Heap} {locs : List Loc} {f g : Nat → Int32} (hH : qh_H G z M E1 H0 H locs) (h1 : E1 i = qa_I G n f) (hfr : ∀ j, j ≠ i → E1 j = E j) (hfg : ∀ k, k < n → f k = g k) : ∃ E2 : Nat → va_E, E2 i = qa_I G n g ∧ (∀ j, j ≠ i → E2 j = E j) ∧ qh_H G z M E2 H0 H locs := by
  refine ⟨va_up E1 i (qa_I G n g), va_up_self .., fun j hj => (va_up_ne _ _ hj).trans (hfr j hj), ⟨hH.1.1, fun j hj => ?_⟩, hH.2⟩
  by_cases hji : j = i
  · subst hji
    have h2 := hH.1.2 j hj
    rw [h1] at h2
    rw [va_up_self]
    have e : arrV G.2.1 n (fun j => .int (f j)) = arrV G.2.1 n (fun j => .int (g j)) := by
      unfold arrV
      congr 2
      funext q
      exact congrArg Value.int (hfg q.val q.isLt)
    have h3 : H[z + j]? = some (arrV G.2.1 n (fun j => .int (f j))) := h2
    rw [e] at h3
    exact h3
  · rw [va_up_ne _ _ hji]
    exact hH.1.2 j hj
theorem qh_renJ {G : qh_G} {z M i n : Nat} {E E1 : Nat → va_E} {H0 H : Heap} {locs : List Loc} {f g : Nat → Int64} (hH : qh_H G z M E1 H0 H locs) (h1 : E1 i = qa_J G n f) (hfr : ∀ j, j ≠ i → E1 j = E j) (hfg : ∀ k, k < n → f k = g k) : ∃ E2 : Nat → va_E, E2 i = qa_J G n g ∧ (∀ j, j ≠ i → E2 j = E j) ∧ qh_H G z M E2 H0 H locs := by
  refine ⟨va_up E1 i (qa_J G n g), va_up_self .., fun j hj => (va_up_ne _ _ hj).trans (hfr j hj), ⟨hH.1.1, fun j hj => ?_⟩, hH.2⟩
  by_cases hji : j = i
  · subst hji
    have h2 := hH.1.2 j hj
    rw [h1] at h2
    rw [va_up_self]
    have e : arrV G.2.2.1 n (fun j => .long (f j)) = arrV G.2.2.1 n (fun j => .long (g j)) := by
      unfold arrV
      congr 2
      funext q
      exact congrArg Value.long (hfg q.val q.isLt)
    have h3 : H[z + j]? = some (arrV G.2.2.1 n (fun j => .long (f j))) := h2
    rw [e] at h3
    exact h3
  · rw [va_up_ne _ _ hji]
    exact hH.1.2 j hj
theorem cpy_0 {α : Type} {f g : Nat → α} {n k : Nat} (h : k < n) : va_cpy f g 0 0 n k = f k := by
  simp only [va_cpy]
  rw [if_pos (by omega)]
  congr 1
  omega
end
section
set_option maxHeartbeats 4000000 in
set_option maxRecDepth 100000 in
theorem c_X8_isSheet (l : Launch) (G : qh_G) (z M : Nat) (E : Nat → va_E) (k : Int32) : Met l yX8_isSheet wsX8_isSheet (qh_R 0) (qh_Pre G z M E [.int k]) (qh_Q G z M (qh_i (fun r E' => E = E' ∧ r = bI (¬ k < 0 ∧ k < 4)))) 0 0 (fun q => z ≤ q) := by
  refine qh_metZ (cc := cX8_isSheet) (maxL := 1) (by decide) rfl (Nat.le_of_ble_eq_true rfl) ?_
  intro pZ eZ sZ mZ aZ bZ tZ cZ RR QQ ls hx hb hml hown hts hRf hRl hH hK hl hret
  have hown : sZ.vm.findClass RX8 = some mZ.cls := hown
  have hl : lv_has ls 1 [(0, .int k)] := hl
  refine lv_iload_n hx hb dX8_isSheet_0 rfl (lv_at hl 0 rfl) ?_
  refine lv_if_lt (tgt := 13) hx hb dX8_isSheet_1 (by decide) (fun c_1 => ?_) (fun c_1 => ?_)
  · refine lv_iconst (v := 0) hx hb dX8_isSheet_13 (by decide) ?_
    exact hret dX8_isSheet_14 hH (Or.inl rfl) (⟨rfl, by first | rfl | (simp [bI, c_1])⟩)
  · refine lv_iload_n hx hb dX8_isSheet_4 rfl (lv_at hl 0 rfl) ?_
    refine lv_iconst (v := 4) hx hb dX8_isSheet_5 (by decide) ?_
    refine lv_icmp_ge (tgt := 13) hx hb dX8_isSheet_6 (by decide) (fun c_6 => ?_) (fun c_6 => ?_)
    · refine lv_iconst (v := 0) hx hb dX8_isSheet_13 (by decide) ?_
      exact hret dX8_isSheet_14 hH (Or.inl rfl) (⟨rfl, by first | rfl | (simp [bI, c_1, c_6])⟩)
    · refine lv_iconst (v := 1) hx hb dX8_isSheet_9 (by decide) ?_
      refine lv_goto (tgt := 14) hx hb dX8_isSheet_10 (by decide) ?_
      exact hret dX8_isSheet_14 hH (Or.inr rfl) (⟨rfl, by first | rfl | (simp [bI, c_1, c_6])⟩)

set_option maxHeartbeats 4000000 in
set_option maxRecDepth 100000 in
theorem c_X8_isLane (l : Launch) (G : qh_G) (z M : Nat) (E : Nat → va_E) (k : Int32) : Met l yX8_isLane wsX8_isLane (qh_R 0) (qh_Pre G z M E [.int k]) (qh_Q G z M (qh_i (fun r E' => E = E' ∧ r = bI (¬ k < 0 ∧ k ≤ 2)))) 0 0 (fun q => z ≤ q) := by
  refine qh_metZ (cc := cX8_isLane) (maxL := 1) (by decide) rfl (Nat.le_of_ble_eq_true rfl) ?_
  intro pZ eZ sZ mZ aZ bZ tZ cZ RR QQ ls hx hb hml hown hts hRf hRl hH hK hl hret
  have hown : sZ.vm.findClass RX8 = some mZ.cls := hown
  have hl : lv_has ls 1 [(0, .int k)] := hl
  refine lv_iload_n hx hb dX8_isLane_0 rfl (lv_at hl 0 rfl) ?_
  refine lv_if_lt (tgt := 13) hx hb dX8_isLane_1 (by decide) (fun c_1 => ?_) (fun c_1 => ?_)
  · refine lv_iconst (v := 0) hx hb dX8_isLane_13 (by decide) ?_
    exact hret dX8_isLane_14 hH (Or.inl rfl) (⟨rfl, by first | rfl | (simp [bI, c_1])⟩)
  · refine lv_iload_n hx hb dX8_isLane_4 rfl (lv_at hl 0 rfl) ?_
    refine lv_iconst (v := 2) hx hb dX8_isLane_5 (by decide) ?_
    refine lv_icmp_gt (tgt := 13) hx hb dX8_isLane_6 (by decide) (fun c_6 => ?_) (fun c_6 => ?_)
    · refine lv_iconst (v := 0) hx hb dX8_isLane_13 (by decide) ?_
      exact hret dX8_isLane_14 hH (Or.inl rfl) (⟨rfl, by first | rfl | (simp [bI, c_1, c_6])⟩)
    · refine lv_iconst (v := 1) hx hb dX8_isLane_9 (by decide) ?_
      refine lv_goto (tgt := 14) hx hb dX8_isLane_10 (by decide) ?_
      exact hret dX8_isLane_14 hH (Or.inr rfl) (⟨rfl, by first | rfl | (simp [bI, c_1, c_6])⟩)

set_option maxHeartbeats 4000000 in
set_option maxRecDepth 100000 in
theorem c_X3_has (l : Launch) (G : qh_G) (z M : Nat) (E : Nat → va_E) (i : Nat) (hi : i < M) (n : Int32) (u1 : Value) (u2 : Value) (k : Int32) (b_i : E i = .inr (3, [.int n, u1, u2])) : Met l yX3_has wsX3_has (qh_R 0) (qh_Pre G z M E [.ref (z + i), .int k]) (qh_Q G z M (qh_i (fun r E' => E = E' ∧ r = bI (¬ k < 0 ∧ k < n)))) 0 0 (fun q => z ≤ q) := by
  refine qh_metZ (cc := cX3_has) (maxL := 2) (by decide) rfl (Nat.le_of_ble_eq_true rfl) ?_
  intro pZ eZ sZ mZ aZ bZ tZ cZ RR QQ ls hx hb hml hown hts hRf hRl hH hK hl hret
  have hown : sZ.vm.findClass RX3 = some mZ.cls := hown
  have hl : lv_has ls 2 [(0, .ref (z + i)), (1, .int k)] := hl
  have in_X3 : ∀ w ∈ wsX30, w ∈ wsX3_has := fun w h => List.mem_cons_of_mem _ (List.mem_append_right _ h)
  have f_9 : qh_F G sZ mZ aZ 9 3 0 := qh_F.of hts in_X3 hown hK rfl 0 (by decide) (by decide +kernel)
  refine lv_iload_n hx hb dX3_has_0 rfl (lv_at hl 1 rfl) ?_
  refine lv_if_lt (tgt := 16) hx hb dX3_has_1 (by decide) (fun c_1 => ?_) (fun c_1 => ?_)
  · refine lv_iconst (v := 0) hx hb dX3_has_16 (by decide) ?_
    exact hret dX3_has_17 hH (Or.inl rfl) (⟨rfl, by first | rfl | (simp [bI, c_1])⟩)
  · refine lv_iload_n hx hb dX3_has_4 rfl (lv_at hl 1 rfl) ?_
    refine lv_aload_n hx hb dX3_has_5 rfl (lv_at hl 0 rfl) ?_
    refine qh_get hx hb hH f_9 (by omega) b_i rfl dX3_has_6 ?_
    refine lv_icmp_ge (tgt := 16) hx hb dX3_has_9 (by decide) (fun c_9 => ?_) (fun c_9 => ?_)
    · refine lv_iconst (v := 0) hx hb dX3_has_16 (by decide) ?_
      exact hret dX3_has_17 hH (Or.inl rfl) (⟨rfl, by first | rfl | (simp [bI, c_1, c_9])⟩)
    · refine lv_iconst (v := 1) hx hb dX3_has_12 (by decide) ?_
      refine lv_goto (tgt := 17) hx hb dX3_has_13 (by decide) ?_
      exact hret dX3_has_17 hH (Or.inr rfl) (⟨rfl, by first | rfl | (simp [bI, c_1, c_9])⟩)

set_option maxHeartbeats 4000000 in
set_option maxRecDepth 100000 in
theorem c_X3_areThere (l : Launch) (G : qh_G) (z M : Nat) (E : Nat → va_E) (i : Nat) (hi : i < M) (n : Int32) (u1 : Value) (u2 : Value) (b_i : E i = .inr (3, [.int n, u1, u2])) : Met l yX3_areThere wsX3_areThere (qh_R 0) (qh_Pre G z M E [.ref (z + i)]) (qh_Q G z M (qh_i (fun r E' => E = E' ∧ r = bI (0 < n)))) 0 0 (fun q => z ≤ q) := by
  refine qh_metZ (cc := cX3_areThere) (maxL := 1) (by decide) rfl (Nat.le_of_ble_eq_true rfl) ?_
  intro pZ eZ sZ mZ aZ bZ tZ cZ RR QQ ls hx hb hml hown hts hRf hRl hH hK hl hret
  have hown : sZ.vm.findClass RX3 = some mZ.cls := hown
  have hl : lv_has ls 1 [(0, .ref (z + i))] := hl
  have in_X3 : ∀ w ∈ wsX30, w ∈ wsX3_areThere := fun w h => List.mem_cons_of_mem _ (List.mem_append_right _ h)
  have f_9 : qh_F G sZ mZ aZ 9 3 0 := qh_F.of hts in_X3 hown hK rfl 0 (by decide) (by decide +kernel)
  refine lv_aload_n hx hb dX3_areThere_0 rfl (lv_at hl 0 rfl) ?_
  refine qh_get hx hb hH f_9 (by omega) b_i rfl dX3_areThere_1 ?_
  refine lv_if_le (tgt := 11) hx hb dX3_areThere_4 (by decide) (fun c_4 => ?_) (fun c_4 => ?_)
  · refine lv_iconst (v := 0) hx hb dX3_areThere_11 (by decide) ?_
    exact hret dX3_areThere_12 hH (Or.inl rfl) (⟨rfl, by first | rfl | (simp [bI, c_4])⟩)
  · refine lv_iconst (v := 1) hx hb dX3_areThere_7 (by decide) ?_
    refine lv_goto (tgt := 12) hx hb dX3_areThere_8 (by decide) ?_
    exact hret dX3_areThere_12 hH (Or.inr rfl) (⟨rfl, by first | rfl | (simp [bI, c_4])⟩)

set_option maxHeartbeats 4000000 in
set_option maxRecDepth 100000 in
theorem c_X1_has (l : Launch) (G : qh_G) (z M : Nat) (E : Nat → va_E) (i : Nat) (hi : i < M) (n : Int32) (u1 : Value) (u2 : Value) (h : Int64) (b_i : E i = .inr (1, [.int n, u1, u2])) : Met l yX1_has wsX1_has (qh_R 0) (qh_Pre G z M E [.ref (z + i), .long h]) (qh_Q G z M (qh_i (fun r E' => E = E' ∧ r = bI (¬ h < 0 ∧ h < n.toInt64)))) 0 0 (fun q => z ≤ q) := by
  refine qh_metZ (cc := cX1_has) (maxL := 3) (by decide) rfl (Nat.le_of_ble_eq_true rfl) ?_
  intro pZ eZ sZ mZ aZ bZ tZ cZ RR QQ ls hx hb hml hown hts hRf hRl hH hK hl hret
  have hown : sZ.vm.findClass RX1 = some mZ.cls := hown
  have hl : lv_has ls 3 [(0, .ref (z + i)), (1, .long h)] := hl
  have in_X1 : ∀ w ∈ wsX10, w ∈ wsX1_has := fun w h => List.mem_cons_of_mem _ (List.mem_append_right _ h)
  have f_9 : qh_F G sZ mZ aZ 9 1 0 := qh_F.of hts in_X1 hown hK rfl 0 (by decide) (by decide +kernel)
  refine lv_lload_n hx hb dX1_has_0 rfl (lv_at hl 1 rfl) ?_
  refine lv_lconst (v := 0) hx hb dX1_has_1 (by decide) ?_
  refine W.lcmp hx hb dX1_has_2 ?_
  refine lv_if_lt (tgt := 20) hx hb dX1_has_3 (by decide) (fun c_3 => ?_) (fun c_3 => ?_)
  · have c_3 := (lg_cmp_lt _ _).mp c_3
    refine lv_iconst (v := 0) hx hb dX1_has_20 (by decide) ?_
    exact hret dX1_has_21 hH (Or.inl rfl) (⟨rfl, by first | rfl | (simp [bI, c_3])⟩)
  · have c_3 := (not_congr (lg_cmp_lt _ _)).mp c_3
    refine lv_lload_n hx hb dX1_has_6 rfl (lv_at hl 1 rfl) ?_
    refine lv_aload_n hx hb dX1_has_7 rfl (lv_at hl 0 rfl) ?_
    refine qh_get hx hb hH f_9 (by omega) b_i rfl dX1_has_8 ?_
    refine lv_i2l (v := n.toInt64) hx hb dX1_has_11 rfl ?_
    refine W.lcmp hx hb dX1_has_12 ?_
    refine lv_if_ge (tgt := 20) hx hb dX1_has_13 (by decide) (fun c_13 => ?_) (fun c_13 => ?_)
    · have c_13 := (lg_cmp_ge _ _).mp c_13
      refine lv_iconst (v := 0) hx hb dX1_has_20 (by decide) ?_
      exact hret dX1_has_21 hH (Or.inl rfl) (⟨rfl, by first | rfl | (simp [bI, c_3, c_13])⟩)
    · have c_13 := (not_congr (lg_cmp_ge _ _)).mp c_13
      refine lv_iconst (v := 1) hx hb dX1_has_16 (by decide) ?_
      refine lv_goto (tgt := 21) hx hb dX1_has_17 (by decide) ?_
      exact hret dX1_has_21 hH (Or.inr rfl) (⟨rfl, by first | rfl | (simp [bI, c_3, c_13])⟩)

set_option maxHeartbeats 4000000 in
set_option maxRecDepth 100000 in
theorem c_X3_changed (l : Launch) (G : qh_G) (z M : Nat) (E : Nat → va_E) (x : Int64) (t : Int32) (y : Int64) : Met l yX3_changed wsX3_changed (qh_R 1) (qh_Pre G z M E [.long x, .int t, .long y]) (qh_Q G z M (qh_l (fun r E' => E = E' ∧ r = chg x t y))) 0 0 (fun q => z ≤ q) := by
  refine qh_metL (cc := cX3_changed) (maxL := 5) (by decide) rfl (Nat.le_of_ble_eq_true rfl) ?_
  intro pZ eZ sZ mZ aZ bZ tZ cZ RR QQ ls hx hb hml hown hts hRf hRl hH hK hl hret
  have hown : sZ.vm.findClass RX3 = some mZ.cls := hown
  have hl : lv_has ls 5 [(0, .long x), (2, .int t), (3, .long y)] := hl
  have j_60 := hts (.methodLink RX3 60 Lib.MathLoose.min_long.x) (by decide +kernel)
  have js_60 := hts (.static Lib.MathLoose.min_long.x) (by decide +kernel)
  have ji_Math := hts (.initialized "java/lang/Math") (by decide +kernel)
  have jc_60 := hts (.code Lib.MathLoose.min_long.x Lib.MathLoose.min_long.code 4 (some .long)) (by decide +kernel)
  have j_54 := hts (.methodLink RX3 54 Lib.MathLoose.max_long.x) (by decide +kernel)
  have js_54 := hts (.static Lib.MathLoose.max_long.x) (by decide +kernel)
  have jc_54 := hts (.code Lib.MathLoose.max_long.x Lib.MathLoose.max_long.code 4 (some .long)) (by decide +kernel)
  refine lv_iload_n hx hb dX3_changed_0 rfl (lv_at hl 1 rfl) ?_
  by_cases c_1_1 : t = 1
  · refine lv_lookup (tgt := 28) (off := 27) hx hb dX3_changed_1 (by decide) (by rw [c_1_1] <;> decide) (by decide) ?_
    refine lv_lload_n hx hb dX3_changed_28 rfl (lv_at hl 0 rfl) ?_
    refine lv_lload_n hx hb dX3_changed_29 rfl (lv_at hl 2 rfl) ?_
    refine va_mmin_long hx hb (hml.trans hl.1.symm) hown j_60 js_60 ji_Math jc_60 (by rw [hRf]; exact Nat.le_of_ble_eq_true rfl) (by rw [hRl]; exact Nat.le_of_ble_eq_true rfl) (Nat.zero_le _) (Nat.zero_le _) dX3_changed_30 ?_
    refine qh_topl (y := mn x y) (rfl) ?_
    exact hret dX3_changed_33 hH (⟨rfl, by simp [chg, c_1_1]⟩)
  by_cases c_1_2 : t = 2
  · refine lv_lookup (tgt := 34) (off := 33) hx hb dX3_changed_1 (by decide) (by rw [c_1_2] <;> decide) (by decide) ?_
    refine lv_lload_n hx hb dX3_changed_34 rfl (lv_at hl 0 rfl) ?_
    refine lv_lload_n hx hb dX3_changed_35 rfl (lv_at hl 2 rfl) ?_
    refine va_mmax_long hx hb (hml.trans hl.1.symm) hown j_54 js_54 ji_Math jc_54 (by rw [hRf]; exact Nat.le_of_ble_eq_true rfl) (by rw [hRl]; exact Nat.le_of_ble_eq_true rfl) (Nat.zero_le _) (Nat.zero_le _) dX3_changed_36 ?_
    refine qh_topl (y := mx x y) (mx_cls x y) ?_
    exact hret dX3_changed_39 hH (⟨rfl, by simp [chg, c_1_1, c_1_2]⟩)
  refine lv_lookup (tgt := 40) (off := 39) hx hb dX3_changed_1 (by decide) (by rw [lv_osw (k := 1) c_1_1 (by decide), lv_osw (k := 2) c_1_2 (by decide)] <;> rfl) (by decide) ?_
  refine lv_lload_n hx hb dX3_changed_40 rfl (lv_at hl 0 rfl) ?_
  refine lv_lload_n hx hb dX3_changed_41 rfl (lv_at hl 2 rfl) ?_
  refine lv_ladd hx hb dX3_changed_42 ?_
  exact hret dX3_changed_43 hH (⟨rfl, by simp [chg, c_1_1, c_1_2]⟩)
end
section
def strg (n : Nat) (kd pa : Nat → Int32) (h : Int64) : Int32 := if ¬ h < 0 ∧ h < (nI n).toInt64 then stv (kd h.toInt32.toNatClampNeg) (pa h.toInt32.toNatClampNeg) else 0
def amt (t : Int32) (n : Nat) (kd pa : Nat → Int32) (v : Int64) : Int64 := if t = 3 then (strg n kd pa v).toInt64 else if t = 4 then (-(strg n kd pa v)).toInt64 else v
def codF (f : Nat → Int32) (q : Nat) (x : Int32) : Int32 := if ¬ x < 0 ∧ x < nI q then f x.toNatClampNeg else -9
def cutF (b x : Int32) : Int32 := if b = 0 then x.toInt8.toInt32 else if b = 1 then x.toInt16.toInt32 else x
/-- how many of n numbers from a on an act makes others -/
def othN (f : Nat → Int64) (t : Int32) (y : Int64) (a n : Nat) : Nat := cntR (fun k => decide (¬ chg (f k) t y = f k)) a n
theorem othN_y {f : Nat → Int64} {t : Int32} {y : Int64} {a n : Nat} (h : ¬ chg (f (a + n)) t y = f (a + n)) : othN f t y a (n + 1) = othN f t y a n + 1 := by
  simp only [othN, cntR_succ, decide_eq_true_eq]
  rw [if_pos h]
theorem othN_n {f : Nat → Int64} {t : Int32} {y : Int64} {a n : Nat} (h : chg (f (a + n)) t y = f (a + n)) : othN f t y a (n + 1) = othN f t y a n := by
  simp only [othN, cntR_succ, decide_eq_true_eq]
  rw [if_neg (fun w => w h)]
  rfl
set_option maxHeartbeats 4000000 in
set_option maxRecDepth 100000 in
theorem c_X1_join (l : Launch) (G : qh_G) (z M : Nat) (E : Nat → va_E) (i : Nat) (j : Nat) (k : Nat) (n : Nat) (kd : Nat → Int32) (pa : Nat → Int32) (a : Int32) (b : Int32) (hi : i < M ∧ j < M ∧ k < M) (hn : n < 3) (hd : i ≠ j ∧ i ≠ k ∧ j ≠ k) (b_i : E i = .inr (1, [.int (nI n), .ref (z + j), .ref (z + k)])) (b_j : E j = qa_I G 3 kd) (b_k : E k = qa_I G 3 pa) : Met l yX1_join wsX1_join (qh_R 0) (qh_Pre G z M E [.ref (z + i), .int a, .int b]) (qh_Q G z M (qh_v (fun E' => E' i = .inr (1, [.int (nI (n + 1)), .ref (z + j), .ref (z + k)]) ∧ E' j = qa_I G 3 (upd kd n a) ∧ E' k = qa_I G 3 (upd pa n b) ∧ ∀ x9, x9 ≠ i → x9 ≠ j → x9 ≠ k → E' x9 = E x9))) 0 0 (fun q => z ≤ q) := by
  refine qh_metV (cc := cX1_join) (maxL := 3) (by decide) rfl (Nat.le_of_ble_eq_true rfl) ?_
  intro pZ eZ sZ mZ aZ bZ tZ cZ RR QQ ls hx hb hml hown hts hRf hRl hH hK hl hret
  have hown : sZ.vm.findClass RX1 = some mZ.cls := hown
  have hl : lv_has ls 3 [(0, .ref (z + i)), (1, .int a), (2, .int b)] := hl
  have in_X1 : ∀ w ∈ wsX10, w ∈ wsX1_join := fun w h => List.mem_cons_of_mem _ (List.mem_append_right _ h)
  have f_9 : qh_F G sZ mZ aZ 9 1 0 := qh_F.of hts in_X1 hown hK rfl 0 (by decide) (by decide +kernel)
  have f_15 : qh_F G sZ mZ aZ 15 1 1 := qh_F.of hts in_X1 hown hK rfl 1 (by decide) (by decide +kernel)
  have f_19 : qh_F G sZ mZ aZ 19 1 2 := qh_F.of hts in_X1 hown hK rfl 2 (by decide) (by decide +kernel)
  have w_9 : qh_W G sZ mZ aZ 9 1 0 .int := qh_W.of hts in_X1 tyX1 tyX1_ok nmX1 hown hK rfl 0 (by decide) (by decide +kernel) rfl (by decide +kernel)
  refine lv_aload_n hx hb dX1_join_0 rfl (lv_at hl 0 rfl) ?_
  refine qh_get hx hb hH f_9 (by omega) b_i rfl dX1_join_1 ?_
  refine lv_iconst (v := 3) hx hb dX1_join_4 (by decide) ?_
  refine lv_icmp_ge (tgt := 38) hx hb dX1_join_5 (by decide) (fun c_5 => ?_) (fun c_5 => ?_)
  · exact absurd c_5 (nI_ge (a := n) (b := 3) hn (by decide))
  · refine lv_aload_n hx hb dX1_join_8 rfl (lv_at hl 0 rfl) ?_
    refine qh_get hx hb hH f_15 (by omega) b_i rfl dX1_join_9 ?_
    refine lv_aload_n hx hb dX1_join_12 rfl (lv_at hl 0 rfl) ?_
    refine qh_get hx hb hH f_9 (by omega) b_i rfl dX1_join_13 ?_
    refine lv_iload_n hx hb dX1_join_16 rfl (lv_at hl 1 rfl) ?_
    refine qh_iast hx hb hK hH (by omega) b_j (j := n) (rfl) (by omega) (by omega) dX1_join_17 (fun E_1 H locs h_j hfr hH _ => ?_)
    have hF : ∀ x9, x9 ≠ j → E_1 x9 = E x9 := fun x9 a0 => hfr x9 a0
    refine lv_aload_n hx hb dX1_join_18 rfl (lv_at hl 0 rfl) ?_
    refine qh_get hx hb hH f_19 (by omega) ((hF i (by omega)).trans b_i) rfl dX1_join_19 ?_
    refine lv_aload_n hx hb dX1_join_22 rfl (lv_at hl 0 rfl) ?_
    refine qh_get hx hb hH f_9 (by omega) ((hF i (by omega)).trans b_i) rfl dX1_join_23 ?_
    refine lv_iload_n hx hb dX1_join_26 rfl (lv_at hl 2 rfl) ?_
    refine qh_iast hx hb hK hH (by omega) ((hF k (by omega)).trans b_k) (j := n) (rfl) (by omega) (by omega) dX1_join_27 (fun E_2 H locs h_k hfr hH _ => ?_)
    have h_j := (hfr j (by omega)).trans h_j
    have hF : ∀ x9, x9 ≠ j → x9 ≠ k → E_2 x9 = E x9 := fun x9 a0 a1 => (hfr x9 a1).trans (hF x9 a0)
    refine lv_aload_n hx hb dX1_join_28 rfl (lv_at hl 0 rfl) ?_
    refine lv_dup hx hb dX1_join_29 rfl ?_
    refine qh_get hx hb hH f_9 (by omega) ((hF i (by omega) (by omega)).trans b_i) rfl dX1_join_30 ?_
    refine lv_iconst (v := 1) hx hb dX1_join_33 (by decide) ?_
    refine lv_iadd hx hb dX1_join_34 ?_
    refine qh_topi (y := nI (n + 1)) (nI_1 n) ?_
    refine qh_put (fs' := [.int (nI (n + 1)), .ref (z + j), .ref (z + k)]) hx hb hH w_9 (by omega) ((hF i (by omega) (by omega)).trans b_i) rfl rfl (Nat.le_of_ble_eq_true rfl) rfl dX1_join_35 (fun E_3 H locs h_i hfr hH _ => ?_)
    have h_j := (hfr j (by omega)).trans h_j
    have h_k := (hfr k (by omega)).trans h_k
    have hF : ∀ x9, x9 ≠ j → x9 ≠ k → x9 ≠ i → E_3 x9 = E x9 := fun x9 a0 a1 a2 => (hfr x9 a2).trans (hF x9 a0 a1)
    exact hret dX1_join_38 hH (⟨h_i, h_j, h_k, fun j a b c => hF j b c a⟩)

set_option maxHeartbeats 4000000 in
set_option maxRecDepth 100000 in
theorem c_X1_becomeLike (l : Launch) (G : qh_G) (z M : Nat) (E : Nat → va_E) (i : Nat) (j : Nat) (k : Nat) (i2 : Nat) (j2 : Nat) (k2 : Nat) (n : Int32) (n2 : Int32) (kd : Nat → Int32) (pa : Nat → Int32) (kd2 : Nat → Int32) (pa2 : Nat → Int32) (hi : i < M ∧ j < M ∧ k < M ∧ i2 < M ∧ j2 < M ∧ k2 < M) (hd : i ≠ j ∧ i ≠ k ∧ j ≠ k ∧ i2 ≠ i ∧ i2 ≠ j ∧ i2 ≠ k ∧ j2 ≠ i ∧ j2 ≠ j ∧ j2 ≠ k ∧ k2 ≠ i ∧ k2 ≠ j ∧ k2 ≠ k) (b_i : E i = .inr (1, [.int n, .ref (z + j), .ref (z + k)])) (b_j : E j = qa_I G 3 kd) (b_k : E k = qa_I G 3 pa) (b_i2 : E i2 = .inr (1, [.int n2, .ref (z + j2), .ref (z + k2)])) (b_j2 : E j2 = qa_I G 3 kd2) (b_k2 : E k2 = qa_I G 3 pa2) : Met l yX1_becomeLike wsX1_becomeLike (qh_R 1) (qh_Pre G z M E [.ref (z + i), .ref (z + i2)]) (qh_Q G z M (qh_v (fun E' => E' i = .inr (1, [.int n2, .ref (z + j), .ref (z + k)]) ∧ E' j = qa_I G 3 kd2 ∧ E' k = qa_I G 3 pa2 ∧ ∀ x9, x9 ≠ i → x9 ≠ j → x9 ≠ k → E' x9 = E x9))) 0 0 (fun q => z ≤ q) := by
  refine qh_metV (cc := cX1_becomeLike) (maxL := 2) (by decide) rfl (Nat.le_of_ble_eq_true rfl) ?_
  intro pZ eZ sZ mZ aZ bZ tZ cZ RR QQ ls hx hb hml hown hts hRf hRl hH hK hl hret
  have hown : sZ.vm.findClass RX1 = some mZ.cls := hown
  have hl : lv_has ls 2 [(0, .ref (z + i)), (1, .ref (z + i2))] := hl
  have in_X1 : ∀ w ∈ wsX10, w ∈ wsX1_becomeLike := fun w h => List.mem_cons_of_mem _ (List.mem_append_right _ h)
  have f_9 : qh_F G sZ mZ aZ 9 1 0 := qh_F.of hts in_X1 hown hK rfl 0 (by decide) (by decide +kernel)
  have w_9 : qh_W G sZ mZ aZ 9 1 0 .int := qh_W.of hts in_X1 tyX1 tyX1_ok nmX1 hown hK rfl 0 (by decide) (by decide +kernel) rfl (by decide +kernel)
  have f_15 : qh_F G sZ mZ aZ 15 1 1 := qh_F.of hts in_X1 hown hK rfl 1 (by decide) (by decide +kernel)
  have j_22 := hts (.methodLink RX1 22 arraycopyName) (by decide +kernel)
  have jn_22 := hts (.native arraycopyName) (by decide +kernel)
  have js_22 := hts (.static arraycopyName) (by decide +kernel)
  have ji_22 := hts (.initialized "java/lang/System") (by decide +kernel)
  have f_19 : qh_F G sZ mZ aZ 19 1 2 := qh_F.of hts in_X1 hown hK rfl 2 (by decide) (by decide +kernel)
  refine lv_aload_n hx hb dX1_becomeLike_0 rfl (lv_at hl 0 rfl) ?_
  refine lv_aload_n hx hb dX1_becomeLike_1 rfl (lv_at hl 1 rfl) ?_
  refine qh_get hx hb hH f_9 (by omega) b_i2 rfl dX1_becomeLike_2 ?_
  refine qh_put (fs' := [.int n2, .ref (z + j), .ref (z + k)]) hx hb hH w_9 (by omega) b_i rfl rfl (Nat.le_of_ble_eq_true rfl) rfl dX1_becomeLike_5 (fun E_1 H locs h_i hfr hH _ => ?_)
  have hF : ∀ x9, x9 ≠ i → E_1 x9 = E x9 := fun x9 a0 => hfr x9 a0
  refine lv_aload_n hx hb dX1_becomeLike_8 rfl (lv_at hl 1 rfl) ?_
  refine qh_get hx hb hH f_15 (by omega) ((hF i2 (by omega)).trans b_i2) rfl dX1_becomeLike_9 ?_
  refine lv_iconst (v := 0) hx hb dX1_becomeLike_12 (by decide) ?_
  refine lv_aload_n hx hb dX1_becomeLike_13 rfl (lv_at hl 0 rfl) ?_
  refine qh_get hx hb hH f_15 (by omega) h_i rfl dX1_becomeLike_14 ?_
  refine lv_iconst (v := 0) hx hb dX1_becomeLike_17 (by decide) ?_
  refine lv_iconst (v := 3) hx hb dX1_becomeLike_18 (by decide) ?_
  refine qh_copyI hx hb (hml.trans hl.1.symm) hown j_22 jn_22 js_22 ji_22 hK hH (by omega) (by omega) ((hF j2 (by omega)).trans b_j2) ((hF j (by omega)).trans b_j) (sp := 0) (dp := 0) (n := 3) (rfl) (rfl) (rfl) (by omega) (by omega) (by decide) (by decide) (by rw [hRf]; exact Nat.le_of_ble_eq_true rfl) (by rw [hRl]; exact Nat.le_of_ble_eq_true rfl) dX1_becomeLike_19 (fun E_2 H locs h_j hfr hH => ?_)
  obtain ⟨E_3, h_j, hfr, hH⟩ := qh_renI (g := kd2) hH h_j hfr (fun k hk => cpy_0 hk)
  have h_i := (hfr i (by omega)).trans h_i
  have hF : ∀ x9, x9 ≠ i → x9 ≠ j → E_3 x9 = E x9 := fun x9 a0 a1 => (hfr x9 a1).trans (hF x9 a0)
  refine lv_aload_n hx hb dX1_becomeLike_22 rfl (lv_at hl 1 rfl) ?_
  refine qh_get hx hb hH f_19 (by omega) ((hF i2 (by omega) (by omega)).trans b_i2) rfl dX1_becomeLike_23 ?_
  refine lv_iconst (v := 0) hx hb dX1_becomeLike_26 (by decide) ?_
  refine lv_aload_n hx hb dX1_becomeLike_27 rfl (lv_at hl 0 rfl) ?_
  refine qh_get hx hb hH f_19 (by omega) h_i rfl dX1_becomeLike_28 ?_
  refine lv_iconst (v := 0) hx hb dX1_becomeLike_31 (by decide) ?_
  refine lv_iconst (v := 3) hx hb dX1_becomeLike_32 (by decide) ?_
  refine qh_copyI hx hb (hml.trans hl.1.symm) hown j_22 jn_22 js_22 ji_22 hK hH (by omega) (by omega) ((hF k2 (by omega) (by omega)).trans b_k2) ((hF k (by omega) (by omega)).trans b_k) (sp := 0) (dp := 0) (n := 3) (rfl) (rfl) (rfl) (by omega) (by omega) (by decide) (by decide) (by rw [hRf]; exact Nat.le_of_ble_eq_true rfl) (by rw [hRl]; exact Nat.le_of_ble_eq_true rfl) dX1_becomeLike_33 (fun E_4 H locs h_k hfr hH => ?_)
  obtain ⟨E_5, h_k, hfr, hH⟩ := qh_renI (g := pa2) hH h_k hfr (fun k hk => cpy_0 hk)
  have h_i := (hfr i (by omega)).trans h_i
  have h_j := (hfr j (by omega)).trans h_j
  have hF : ∀ x9, x9 ≠ i → x9 ≠ j → x9 ≠ k → E_5 x9 = E x9 := fun x9 a0 a1 a2 => (hfr x9 a2).trans (hF x9 a0 a1)
  exact hret dX1_becomeLike_36 hH (⟨h_i, h_j, h_k, hF⟩)

set_option maxHeartbeats 4000000 in
set_option maxRecDepth 100000 in
theorem c_X1_strength (l : Launch) (G : qh_G) (z M : Nat) (E : Nat → va_E) (i : Nat) (j : Nat) (k : Nat) (n : Nat) (kd : Nat → Int32) (pa : Nat → Int32) (h : Int64) (hi : i < M ∧ j < M ∧ k < M) (hn : n ≤ 3) (b_i : E i = .inr (1, [.int (nI n), .ref (z + j), .ref (z + k)])) (b_j : E j = qa_I G 3 kd) (b_k : E k = qa_I G 3 pa) : Met l yX1_strength wsX1_strength (qh_R 1) (qh_Pre G z M E [.ref (z + i), .long h]) (qh_Q G z M (qh_i (fun r E' => E = E' ∧ r = strg n kd pa h))) 0 0 (fun q => z ≤ q) := by
  refine qh_metI (cc := cX1_strength) (maxL := 4) (by decide) rfl (Nat.le_of_ble_eq_true rfl) ?_
  intro pZ eZ sZ mZ aZ bZ tZ cZ RR QQ ls hx hb hml hown hts hRf hRl hH hK hl hret
  have hown : sZ.vm.findClass RX1 = some mZ.cls := hown
  have hl : lv_has ls 4 [(0, .ref (z + i)), (1, .long h)] := hl
  have in_X1 : ∀ w ∈ wsX10, w ∈ wsX1_strength := fun w h => List.mem_cons_of_mem _ (List.mem_append_right _ h)
  have f_19 : qh_F G sZ mZ aZ 19 1 2 := qh_F.of hts in_X1 hown hK rfl 2 (by decide) (by decide +kernel)
  have f_15 : qh_F G sZ mZ aZ 15 1 1 := qh_F.of hts in_X1 hown hK rfl 1 (by decide) (by decide +kernel)
  refine lv_aload_n hx hb dX1_strength_0 rfl (lv_at hl 0 rfl) ?_
  refine lv_lload_n hx hb dX1_strength_1 rfl (lv_at hl 1 rfl) ?_
  refine qh_runV (As := [.long h]) (rest := []) (C := RX1) ⟨hx, hb, hml, hown, hts⟩ hK hH (c_X1_has l G z M E i (by omega) (nI n) (.ref (z + j)) (.ref (z + k)) h b_i) (cwV 1 hts gX1_strength_X1_has rfl rfl rfl (by decide +kernel) (by rw [hRf, hRl]; exact ⟨Nat.le_of_ble_eq_true rfl, Nat.le_of_ble_eq_true rfl⟩)) (by omega) b_i rfl rfl hl.1 rfl (Nat.le_of_ble_eq_true rfl) dX1_strength_2 ⟨Nat.zero_le _, Nat.zero_le _⟩ (qh_kki fun r_2 E_1 H locs hpost hH => ?_)
  obtain ⟨rfl, rfl⟩ := hpost
  refine lv_if_ne (tgt := 10) hx hb dX1_strength_5 (by decide) (fun c_5 => ?_) (fun c_5 => ?_)
  · have c_5 := bI_ne.mp c_5
    obtain ⟨q, hq, ej⟩ := lN_of (by omega) c_5
    have hs : strg n kd pa h = stv (kd q) (pa q) := by rw [strg, if_pos c_5, ej, lN_i, nI_clamp (by omega)]
    refine lv_aload_n hx hb dX1_strength_10 rfl (lv_at hl 0 rfl) ?_
    refine qh_get hx hb hH f_19 (by omega) b_i rfl dX1_strength_11 ?_
    refine lv_lload_n hx hb dX1_strength_14 rfl (lv_at hl 1 rfl) ?_
    refine lv_l2i (v := h.toInt32) hx hb dX1_strength_15 rfl ?_
    refine qh_iald hx hb hK hH (by omega) b_k (j := q) (by rw [ej]; exact lN_i q) (by omega) (by omega) dX1_strength_16 ?_
    refine lv_istore_n (lv' := [(3, .int (pa q)), (0, .ref (z + i)), (1, .long h)]) hx hb dX1_strength_17 rfl hl (by decide) rfl (fun ls hl => ?_)
    refine lv_aload_n hx hb dX1_strength_18 rfl (lv_at hl 1 rfl) ?_
    refine qh_get hx hb hH f_15 (by omega) b_i rfl dX1_strength_19 ?_
    refine lv_lload_n hx hb dX1_strength_22 rfl (lv_at hl 2 rfl) ?_
    refine lv_l2i (v := h.toInt32) hx hb dX1_strength_23 rfl ?_
    refine qh_iald hx hb hK hH (by omega) b_j (j := q) (by rw [ej]; exact lN_i q) (by omega) (by omega) dX1_strength_24 ?_
    by_cases c_25_1 : kd q = 1
    · refine lv_lookup (tgt := 52) (off := 27) hx hb dX1_strength_25 (by decide) (by rw [c_25_1] <;> decide) (by decide) ?_
      refine lv_iload_n hx hb dX1_strength_52 rfl (lv_at hl 0 rfl) ?_
      refine lv_iconst (v := 1) hx hb dX1_strength_53 (by decide) ?_
      refine lv_iadd hx hb dX1_strength_54 ?_
      exact hret dX1_strength_55 hH (⟨rfl, by rw [hs, stv, if_pos c_25_1]⟩)
    by_cases c_25_2 : kd q = 2
    · refine lv_lookup (tgt := 56) (off := 31) hx hb dX1_strength_25 (by decide) (by rw [c_25_2] <;> decide) (by decide) ?_
      refine lv_iconst (v := 2) hx hb dX1_strength_56 (by decide) ?_
      refine lv_iload_n hx hb dX1_strength_57 rfl (lv_at hl 0 rfl) ?_
      refine lv_imul hx hb dX1_strength_58 ?_
      exact hret dX1_strength_59 hH (⟨rfl, by rw [hs, stv, if_neg c_25_1, if_pos c_25_2]⟩)
    refine lv_lookup (tgt := 60) (off := 35) hx hb dX1_strength_25 (by decide) (by rw [lv_osw (k := 1) c_25_1 (by decide), lv_osw (k := 2) c_25_2 (by decide)] <;> rfl) (by decide) ?_
    refine lv_iload_n hx hb dX1_strength_60 rfl (lv_at hl 0 rfl) ?_
    exact hret dX1_strength_61 hH (⟨rfl, by rw [hs, stv, if_neg c_25_1, if_neg c_25_2]⟩)
  · have c_5 := bI_eq.mp c_5
    refine lv_iconst (v := 0) hx hb dX1_strength_8 (by decide) ?_
    exact hret dX1_strength_9 hH (⟨rfl, by rw [strg, if_neg c_5]⟩)

set_option maxHeartbeats 4000000 in
set_option maxRecDepth 100000 in
theorem c_J7_fill_53178 (l : Launch) (G : qh_G) (z M : Nat) (E : Nat → va_E) (i : Nat) (n : Nat) (f : Nat → Int32) (v : Int32) (hi : i < M) (hn : n < 2 ^ 31) (b_i : E i = qa_I G n f) : Met l yJ7_fill_53178 wsJ7_fill_53178 (qh_R 0) (qh_Pre G z M E [.ref (z + i), .int v]) (qh_Q G z M (qh_v (fun E' => E' i = qa_I G n (fun _ => v) ∧ ∀ x9, x9 ≠ i → E' x9 = E x9))) 0 0 (fun q => z ≤ q) := by
  refine qh_metV (cc := cJ7_fill_53178) (maxL := 4) (by decide) rfl (Nat.le_of_ble_eq_true rfl) ?_
  intro pZ eZ sZ mZ aZ bZ tZ cZ RR QQ ls hx hb hml hown hts hRf hRl hH hK hl hret
  have hown : sZ.vm.findClass RJ7 = some mZ.cls := hown
  have hl : lv_has ls 4 [(0, .ref (z + i)), (1, .int v)] := hl
  refine lv_iconst (v := 0) hx hb dJ7_fill_53178_0 (by decide) ?_
  refine lv_istore_n (lv' := [(2, .int 0), (0, .ref (z + i)), (1, .int v)]) hx hb dJ7_fill_53178_1 rfl hl (by decide) rfl (fun ls hl => ?_)
  refine lv_aload_n hx hb dJ7_fill_53178_2 rfl (lv_at hl 1 rfl) ?_
  refine qh_alenI hx hb hK hH (by omega) b_i dJ7_fill_53178_3 ?_
  refine lv_istore_n (lv' := [(3, .int (nI n)), (2, .int 0), (0, .ref (z + i)), (1, .int v)]) hx hb dJ7_fill_53178_4 rfl hl (by decide) rfl (fun ls hl => ?_)
  have L_5 : ∀ fu : Nat, ∀ k : Nat, (k ≤ n) → (n - k < fu) → ∀ Ek : Nat → va_E, Ek i = qa_I G n (fun t => if t < k then v else f t) → (∀ x9, x9 ≠ i → Ek x9 = E x9) → ∀ (H : Heap) (locs : List Loc), qh_H G z M Ek sZ.heap H locs → ∀ ls : Array Slot, lv_has ls 4 [(0, .ref (z + i)), (1, .int v), (2, .int (nI k)), (3, .int (nI n))] → W pZ l eZ RR sZ mZ aZ bZ tZ cZ H locs 0 0 QQ (F0 mZ 5 ls []) := by
    intro fu
    induction fu with
    | zero =>
      intro k hk hfuel
      exact absurd hfuel (by omega)
    | succ fu ih =>
      intro k hk hfuel Ek h_i hF H locs hH ls hl
      refine lv_iload_n hx hb dJ7_fill_53178_5 rfl (lv_at hl 2 rfl) ?_
      refine lv_iload_n hx hb dJ7_fill_53178_6 rfl (lv_at hl 3 rfl) ?_
      refine lv_icmp_ge (tgt := 20) hx hb dJ7_fill_53178_7 (by decide) (fun c_7 => ?_) (fun c_7 => ?_)
      · have hkn : k = n := by
          rcases Nat.lt_or_ge k n with q | q
          · exact absurd c_7 (nI_ge q hn)
          · omega
        subst hkn
        obtain ⟨E2, h2, hf2, hH⟩ := qh_renI (g := fun _ => v) hH h_i (fun j hj => hF j hj) (fun t ht => if_pos ht)
        exact hret dJ7_fill_53178_20 hH (⟨h2, hf2⟩)
      · have hkn : k < n := by
          rcases Nat.lt_or_ge k n with q | q
          · exact q
          · exact absurd (nI_le q (by omega)) c_7
        refine lv_aload_n hx hb dJ7_fill_53178_10 rfl (lv_at hl 0 rfl) ?_
        refine lv_iload_n hx hb dJ7_fill_53178_11 rfl (lv_at hl 2 rfl) ?_
        refine lv_iload_n hx hb dJ7_fill_53178_12 rfl (lv_at hl 1 rfl) ?_
        refine qh_iast hx hb hK hH (by omega) h_i (j := k) (rfl) (hkn) (by omega) dJ7_fill_53178_13 (fun E_1 H locs h_i hfr hH _ => ?_)
        have h_i : E_1 i = qa_I G n (fun t => if t < k + 1 then v else f t) := h_i.trans (congrArg (qa_I G n) (by funext t; simp only [upd]; split <;> split <;> (try split) <;> first | rfl | omega))
        have hF : ∀ x9, x9 ≠ i → E_1 x9 = E x9 := fun x9 a0 => (hfr x9 a0).trans (hF x9 a0)
        refine lv_iinc (v := nI (k + 1)) (lv' := [(2, .int (nI (k + 1))), (0, .ref (z + i)), (1, .int v), (3, .int (nI n))]) hx hb dJ7_fill_53178_14 hl (k := 2) rfl (qn_inc k) (by decide) rfl (fun ls hl => ?_)
        refine lv_goto (tgt := 5) hx hb dJ7_fill_53178_17 (by decide) ?_
        exact ih (k + 1) (by omega) (by omega) E_1 h_i (fun x9 a0 => hF x9 a0) _ _ hH ls (lv_sub hl [1, 2, 0, 3] rfl)
  exact L_5 (n + 1) 0 (Nat.zero_le n) (by omega) E (b_i.trans (congrArg (qa_I G n) (by funext t; simp))) (fun x9 a0 => rfl) _ _ hH ls (lv_sub hl [2, 3, 1, 0] rfl)

set_option maxHeartbeats 4000000 in
set_option maxRecDepth 100000 in
theorem c_X5_getRow (l : Launch) (G : qh_G) (z M : Nat) (E : Nat → va_E) (i : Nat) (j : Nat) (a : Int32) (b : Int32) (cc : Int32) (ln : Int32) (n : Int32) (f : Nat → Int32) (hi : i < M ∧ j < M ∧ i ≠ j) (b_i : E i = .inr (5, [.int a, .int b, .int cc, .ref (z + j)])) (b_j : E j = qa_I G 60 f) : Met l yX5_getRow wsX5_getRow (qh_R 1) (qh_Pre G z M E [.ref (z + i), .int ln, .int n]) (qh_Q G z M (qh_v (fun E' => E' i = .inr (5, [.int 1, .int ln, .int n, .ref (z + j)]) ∧ E' j = qa_I G 60 (fun _ => 0) ∧ ∀ x9, x9 ≠ i → x9 ≠ j → E' x9 = E x9))) 0 0 (fun q => z ≤ q) := by
  refine qh_metV (cc := cX5_getRow) (maxL := 3) (by decide) rfl (Nat.le_of_ble_eq_true rfl) ?_
  intro pZ eZ sZ mZ aZ bZ tZ cZ RR QQ ls hx hb hml hown hts hRf hRl hH hK hl hret
  have hown : sZ.vm.findClass RX5 = some mZ.cls := hown
  have hl : lv_has ls 3 [(0, .ref (z + i)), (1, .int ln), (2, .int n)] := hl
  have in_X5 : ∀ w ∈ wsX50, w ∈ wsX5_getRow := fun w h => List.mem_cons_of_mem _ (List.mem_append_right _ h)
  have w_9 : qh_W G sZ mZ aZ 9 5 0 .boolean := qh_W.of hts in_X5 tyX5 tyX5_ok nmX5 hown hK rfl 0 (by decide) (by decide +kernel) rfl (by decide +kernel)
  have w_15 : qh_W G sZ mZ aZ 15 5 1 .int := qh_W.of hts in_X5 tyX5 tyX5_ok nmX5 hown hK rfl 1 (by decide) (by decide +kernel) rfl (by decide +kernel)
  have w_19 : qh_W G sZ mZ aZ 19 5 2 .int := qh_W.of hts in_X5 tyX5 tyX5_ok nmX5 hown hK rfl 2 (by decide) (by decide +kernel) rfl (by decide +kernel)
  have f_22 : qh_F G sZ mZ aZ 22 5 3 := qh_F.of hts in_X5 hown hK rfl 3 (by decide) (by decide +kernel)
  refine lv_aload_n hx hb dX5_getRow_0 rfl (lv_at hl 0 rfl) ?_
  refine lv_iconst (v := 1) hx hb dX5_getRow_1 (by decide) ?_
  refine qh_put (fs' := [.int 1, .int b, .int cc, .ref (z + j)]) hx hb hH w_9 (by omega) b_i rfl rfl (Nat.le_of_ble_eq_true rfl) rfl dX5_getRow_2 (fun E_1 H locs h_i hfr hH _ => ?_)
  have hF : ∀ x9, x9 ≠ i → E_1 x9 = E x9 := fun x9 a0 => hfr x9 a0
  refine lv_aload_n hx hb dX5_getRow_5 rfl (lv_at hl 0 rfl) ?_
  refine lv_iload_n hx hb dX5_getRow_6 rfl (lv_at hl 1 rfl) ?_
  refine qh_put (fs' := [.int 1, .int ln, .int cc, .ref (z + j)]) hx hb hH w_15 (by omega) h_i rfl rfl (Nat.le_of_ble_eq_true rfl) rfl dX5_getRow_7 (fun E_2 H locs h_i hfr hH _ => ?_)
  have hF : ∀ x9, x9 ≠ i → E_2 x9 = E x9 := fun x9 a0 => (hfr x9 a0).trans (hF x9 a0)
  refine lv_aload_n hx hb dX5_getRow_10 rfl (lv_at hl 0 rfl) ?_
  refine lv_iload_n hx hb dX5_getRow_11 rfl (lv_at hl 2 rfl) ?_
  refine qh_put (fs' := [.int 1, .int ln, .int n, .ref (z + j)]) hx hb hH w_19 (by omega) h_i rfl rfl (Nat.le_of_ble_eq_true rfl) rfl dX5_getRow_12 (fun E_3 H locs h_i hfr hH _ => ?_)
  have hF : ∀ x9, x9 ≠ i → E_3 x9 = E x9 := fun x9 a0 => (hfr x9 a0).trans (hF x9 a0)
  refine lv_aload_n hx hb dX5_getRow_15 rfl (lv_at hl 0 rfl) ?_
  refine qh_get hx hb hH f_22 (by omega) h_i rfl dX5_getRow_16 ?_
  refine lv_iconst (v := 0) hx hb dX5_getRow_19 (by decide) ?_
  refine qh_runS (As := [.ref (z + j), .int 0]) (rest := []) ⟨hx, hb, hml, hown, hts⟩ hK hH (c_J7_fill_53178 l G z M E_3 j 60 f 0 (by omega) (by omega) ((hF j (by omega)).trans b_j)) (va_cwS 2 hts gX5_getRow_J7_fill_53178 rfl rfl rfl (by decide +kernel) (by rw [hRf, hRl]; exact ⟨Nat.le_of_ble_eq_true rfl, Nat.le_of_ble_eq_true rfl⟩)) rfl hl.1 rfl (Nat.le_of_ble_eq_true rfl) dX5_getRow_20 ⟨Nat.zero_le _, Nat.zero_le _⟩ (qh_kkv fun E_4 H locs hpost hH => ?_)
  obtain ⟨h_j, hfr⟩ := hpost
  have h_i := (hfr i (by omega)).trans h_i
  have hF : ∀ x9, x9 ≠ i → x9 ≠ j → E_4 x9 = E x9 := fun x9 a0 a1 => (hfr x9 a1).trans (hF x9 a0)
  exact hret dX5_getRow_23 hH (⟨h_i, h_j, hF⟩)

set_option maxHeartbeats 4000000 in
set_option maxRecDepth 100000 in
theorem c_X5_loseRow (l : Launch) (G : qh_G) (z M : Nat) (E : Nat → va_E) (i : Nat) (a : Int32) (b : Int32) (cc : Int32) (u : Value) (ha : a = 0 ∨ a = 1) (hi : i < M) (b_i : E i = .inr (5, [.int a, .int b, .int cc, u])) : Met l yX5_loseRow wsX5_loseRow (qh_R 0) (qh_Pre G z M E [.ref (z + i)]) (qh_Q G z M (qh_i (fun r E' => r = a ∧ E' i = .inr (5, [.int 0, .int b, .int 0, u]) ∧ ∀ x9, x9 ≠ i → E' x9 = E x9))) 0 0 (fun q => z ≤ q) := by
  refine qh_metZ (cc := cX5_loseRow) (maxL := 2) (by decide) rfl (Nat.le_of_ble_eq_true rfl) ?_
  intro pZ eZ sZ mZ aZ bZ tZ cZ RR QQ ls hx hb hml hown hts hRf hRl hH hK hl hret
  have hown : sZ.vm.findClass RX5 = some mZ.cls := hown
  have hl : lv_has ls 2 [(0, .ref (z + i))] := hl
  have in_X5 : ∀ w ∈ wsX50, w ∈ wsX5_loseRow := fun w h => List.mem_cons_of_mem _ (List.mem_append_right _ h)
  have f_9 : qh_F G sZ mZ aZ 9 5 0 := qh_F.of hts in_X5 hown hK rfl 0 (by decide) (by decide +kernel)
  have w_9 : qh_W G sZ mZ aZ 9 5 0 .boolean := qh_W.of hts in_X5 tyX5 tyX5_ok nmX5 hown hK rfl 0 (by decide) (by decide +kernel) rfl (by decide +kernel)
  have w_19 : qh_W G sZ mZ aZ 19 5 2 .int := qh_W.of hts in_X5 tyX5 tyX5_ok nmX5 hown hK rfl 2 (by decide) (by decide +kernel) rfl (by decide +kernel)
  refine lv_aload_n hx hb dX5_loseRow_0 rfl (lv_at hl 0 rfl) ?_
  refine qh_get hx hb hH f_9 (by omega) b_i rfl dX5_loseRow_1 ?_
  refine lv_istore_n (lv' := [(1, .int a), (0, .ref (z + i))]) hx hb dX5_loseRow_4 rfl hl (by decide) rfl (fun ls hl => ?_)
  refine lv_aload_n hx hb dX5_loseRow_5 rfl (lv_at hl 1 rfl) ?_
  refine lv_iconst (v := 0) hx hb dX5_loseRow_6 (by decide) ?_
  refine qh_put (fs' := [.int 0, .int b, .int cc, u]) hx hb hH w_9 (by omega) b_i rfl rfl (Nat.le_of_ble_eq_true rfl) rfl dX5_loseRow_7 (fun E_1 H locs h_i hfr hH _ => ?_)
  have hF : ∀ x9, x9 ≠ i → E_1 x9 = E x9 := fun x9 a0 => hfr x9 a0
  refine lv_aload_n hx hb dX5_loseRow_10 rfl (lv_at hl 1 rfl) ?_
  refine lv_iconst (v := 0) hx hb dX5_loseRow_11 (by decide) ?_
  refine qh_put (fs' := [.int 0, .int b, .int 0, u]) hx hb hH w_19 (by omega) h_i rfl rfl (Nat.le_of_ble_eq_true rfl) rfl dX5_loseRow_12 (fun E_2 H locs h_i hfr hH _ => ?_)
  have hF : ∀ x9, x9 ≠ i → E_2 x9 = E x9 := fun x9 a0 => (hfr x9 a0).trans (hF x9 a0)
  refine lv_iload_n hx hb dX5_loseRow_15 rfl (lv_at hl 0 rfl) ?_
  exact hret dX5_loseRow_16 hH (ha) (⟨rfl, h_i, hF⟩)

set_option maxHeartbeats 4000000 in
set_option maxRecDepth 100000 in
theorem c_X5_faultTakenAs (l : Launch) (G : qh_G) (z M : Nat) (E : Nat → va_E) (i : Nat) (a : Int32) (b : Int32) (cc : Int32) (ln : Int32) (u : Value) (hi : i < M) (b_i : E i = .inr (5, [.int a, .int b, .int cc, u])) : Met l yX5_faultTakenAs wsX5_faultTakenAs (qh_R 0) (qh_Pre G z M E [.ref (z + i), .int ln]) (qh_Q G z M (qh_i (fun r E' => E = E' ∧ r = (if a = 0 then 1 else if b = ln then 0 else 2 : Int32)))) 0 0 (fun q => z ≤ q) := by
  refine qh_metI (cc := cX5_faultTakenAs) (maxL := 2) (by decide) rfl (Nat.le_of_ble_eq_true rfl) ?_
  intro pZ eZ sZ mZ aZ bZ tZ cZ RR QQ ls hx hb hml hown hts hRf hRl hH hK hl hret
  have hown : sZ.vm.findClass RX5 = some mZ.cls := hown
  have hl : lv_has ls 2 [(0, .ref (z + i)), (1, .int ln)] := hl
  have in_X5 : ∀ w ∈ wsX50, w ∈ wsX5_faultTakenAs := fun w h => List.mem_cons_of_mem _ (List.mem_append_right _ h)
  have f_9 : qh_F G sZ mZ aZ 9 5 0 := qh_F.of hts in_X5 hown hK rfl 0 (by decide) (by decide +kernel)
  have f_15 : qh_F G sZ mZ aZ 15 5 1 := qh_F.of hts in_X5 hown hK rfl 1 (by decide) (by decide +kernel)
  refine lv_aload_n hx hb dX5_faultTakenAs_0 rfl (lv_at hl 0 rfl) ?_
  refine qh_get hx hb hH f_9 (by omega) b_i rfl dX5_faultTakenAs_1 ?_
  refine lv_if_ne (tgt := 9) hx hb dX5_faultTakenAs_4 (by decide) (fun c_4 => ?_) (fun c_4 => ?_)
  · refine lv_aload_n hx hb dX5_faultTakenAs_9 rfl (lv_at hl 0 rfl) ?_
    refine qh_get hx hb hH f_15 (by omega) b_i rfl dX5_faultTakenAs_10 ?_
    refine lv_iload_n hx hb dX5_faultTakenAs_13 rfl (lv_at hl 1 rfl) ?_
    refine lv_icmp_eq (tgt := 21) hx hb dX5_faultTakenAs_14 (by decide) (fun c_14 => ?_) (fun c_14 => ?_)
    · refine lv_iconst (v := 0) hx hb dX5_faultTakenAs_21 (by decide) ?_
      exact hret dX5_faultTakenAs_22 hH (⟨rfl, by simp [c_4, c_14]⟩)
    · refine lv_iconst (v := 2) hx hb dX5_faultTakenAs_17 (by decide) ?_
      refine lv_goto (tgt := 22) hx hb dX5_faultTakenAs_18 (by decide) ?_
      exact hret dX5_faultTakenAs_22 hH (⟨rfl, by simp [c_4, c_14]⟩)
  · refine lv_iconst (v := 1) hx hb dX5_faultTakenAs_7 (by decide) ?_
    exact hret dX5_faultTakenAs_8 hH (⟨rfl, by simp [c_4]⟩)

set_option maxHeartbeats 4000000 in
set_option maxRecDepth 100000 in
theorem c_X5_hasCells (l : Launch) (G : qh_G) (z M : Nat) (E : Nat → va_E) (i : Nat) (a : Int32) (b : Int32) (cc : Int32) (x : Int32) (n : Int32) (u : Value) (hi : i < M) (b_i : E i = .inr (5, [.int a, .int b, .int cc, u])) : Met l yX5_hasCells wsX5_hasCells (qh_R 0) (qh_Pre G z M E [.ref (z + i), .int x, .int n]) (qh_Q G z M (qh_i (fun r E' => E = E' ∧ r = bI (¬ x < 0 ∧ ¬ cc < x ∧ ¬ n < 0 ∧ ¬ cc - x < n)))) 0 0 (fun q => z ≤ q) := by
  refine qh_metZ (cc := cX5_hasCells) (maxL := 3) (by decide) rfl (Nat.le_of_ble_eq_true rfl) ?_
  intro pZ eZ sZ mZ aZ bZ tZ cZ RR QQ ls hx hb hml hown hts hRf hRl hH hK hl hret
  have hown : sZ.vm.findClass RX5 = some mZ.cls := hown
  have hl : lv_has ls 3 [(0, .ref (z + i)), (1, .int x), (2, .int n)] := hl
  have in_X5 : ∀ w ∈ wsX50, w ∈ wsX5_hasCells := fun w h => List.mem_cons_of_mem _ (List.mem_append_right _ h)
  have f_19 : qh_F G sZ mZ aZ 19 5 2 := qh_F.of hts in_X5 hown hK rfl 2 (by decide) (by decide +kernel)
  refine lv_iload_n hx hb dX5_hasCells_0 rfl (lv_at hl 1 rfl) ?_
  refine lv_if_lt (tgt := 30) hx hb dX5_hasCells_1 (by decide) (fun c_1 => ?_) (fun c_1 => ?_)
  · refine lv_iconst (v := 0) hx hb dX5_hasCells_30 (by decide) ?_
    exact hret dX5_hasCells_31 hH (Or.inl rfl) (⟨rfl, by first | rfl | (simp [bI, c_1])⟩)
  · refine lv_iload_n hx hb dX5_hasCells_4 rfl (lv_at hl 1 rfl) ?_
    refine lv_aload_n hx hb dX5_hasCells_5 rfl (lv_at hl 0 rfl) ?_
    refine qh_get hx hb hH f_19 (by omega) b_i rfl dX5_hasCells_6 ?_
    refine lv_icmp_gt (tgt := 30) hx hb dX5_hasCells_9 (by decide) (fun c_9 => ?_) (fun c_9 => ?_)
    · refine lv_iconst (v := 0) hx hb dX5_hasCells_30 (by decide) ?_
      exact hret dX5_hasCells_31 hH (Or.inl rfl) (⟨rfl, by first | rfl | (simp [bI, c_1, c_9])⟩)
    · refine lv_iload_n hx hb dX5_hasCells_12 rfl (lv_at hl 2 rfl) ?_
      refine lv_if_lt (tgt := 30) hx hb dX5_hasCells_13 (by decide) (fun c_13 => ?_) (fun c_13 => ?_)
      · refine lv_iconst (v := 0) hx hb dX5_hasCells_30 (by decide) ?_
        exact hret dX5_hasCells_31 hH (Or.inl rfl) (⟨rfl, by first | rfl | (simp [bI, c_1, c_9, c_13])⟩)
      · refine lv_iload_n hx hb dX5_hasCells_16 rfl (lv_at hl 2 rfl) ?_
        refine lv_aload_n hx hb dX5_hasCells_17 rfl (lv_at hl 0 rfl) ?_
        refine qh_get hx hb hH f_19 (by omega) b_i rfl dX5_hasCells_18 ?_
        refine lv_iload_n hx hb dX5_hasCells_21 rfl (lv_at hl 1 rfl) ?_
        refine lv_isub hx hb dX5_hasCells_22 ?_
        refine lv_icmp_gt (tgt := 30) hx hb dX5_hasCells_23 (by decide) (fun c_23 => ?_) (fun c_23 => ?_)
        · refine lv_iconst (v := 0) hx hb dX5_hasCells_30 (by decide) ?_
          exact hret dX5_hasCells_31 hH (Or.inl rfl) (⟨rfl, by first | rfl | (simp [bI, c_1, c_9, c_13, c_23])⟩)
        · refine lv_iconst (v := 1) hx hb dX5_hasCells_26 (by decide) ?_
          refine lv_goto (tgt := 31) hx hb dX5_hasCells_27 (by decide) ?_
          exact hret dX5_hasCells_31 hH (Or.inr rfl) (⟨rfl, by first | rfl | (simp [bI, c_1, c_9, c_13, c_23])⟩)

set_option maxHeartbeats 4000000 in
set_option maxRecDepth 100000 in
theorem c_X5_code (l : Launch) (G : qh_G) (z M : Nat) (E : Nat → va_E) (i : Nat) (j : Nat) (q : Nat) (a : Int32) (b : Int32) (x : Int32) (f : Nat → Int32) (hi : i < M ∧ j < M) (hq : q ≤ 60) (b_i : E i = .inr (5, [.int a, .int b, .int (nI q), .ref (z + j)])) (b_j : E j = qa_I G 60 f) : Met l yX5_code wsX5_code (qh_R 0) (qh_Pre G z M E [.ref (z + i), .int x]) (qh_Q G z M (qh_i (fun r E' => E = E' ∧ r = codF f q x))) 0 0 (fun q => z ≤ q) := by
  refine qh_metI (cc := cX5_code) (maxL := 2) (by decide) rfl (Nat.le_of_ble_eq_true rfl) ?_
  intro pZ eZ sZ mZ aZ bZ tZ cZ RR QQ ls hx hb hml hown hts hRf hRl hH hK hl hret
  have hown : sZ.vm.findClass RX5 = some mZ.cls := hown
  have hl : lv_has ls 2 [(0, .ref (z + i)), (1, .int x)] := hl
  have in_X5 : ∀ w ∈ wsX50, w ∈ wsX5_code := fun w h => List.mem_cons_of_mem _ (List.mem_append_right _ h)
  have f_19 : qh_F G sZ mZ aZ 19 5 2 := qh_F.of hts in_X5 hown hK rfl 2 (by decide) (by decide +kernel)
  have f_22 : qh_F G sZ mZ aZ 22 5 3 := qh_F.of hts in_X5 hown hK rfl 3 (by decide) (by decide +kernel)
  refine lv_iload_n hx hb dX5_code_0 rfl (lv_at hl 1 rfl) ?_
  refine lv_if_lt (tgt := 21) hx hb dX5_code_1 (by decide) (fun c_1 => ?_) (fun c_1 => ?_)
  · refine lv_bipush (v := (-9)) hx hb dX5_code_21 (by decide) ?_
    exact hret dX5_code_23 hH (⟨rfl, by rw [codF, if_neg (fun w => w.1 c_1)]⟩)
  · refine lv_iload_n hx hb dX5_code_4 rfl (lv_at hl 1 rfl) ?_
    refine lv_aload_n hx hb dX5_code_5 rfl (lv_at hl 0 rfl) ?_
    refine qh_get hx hb hH f_19 (by omega) b_i rfl dX5_code_6 ?_
    refine lv_icmp_ge (tgt := 21) hx hb dX5_code_9 (by decide) (fun c_9 => ?_) (fun c_9 => ?_)
    · refine lv_bipush (v := (-9)) hx hb dX5_code_21 (by decide) ?_
      exact hret dX5_code_23 hH (⟨rfl, by rw [codF, if_neg (fun w => Int32.not_lt.mpr c_9 w.2)]⟩)
    · obtain ⟨t, ht, et⟩ := nI_of_in (k := x) (c := q) (by omega) ⟨c_1, Int32.not_le.mp c_9⟩
      refine lv_aload_n hx hb dX5_code_12 rfl (lv_at hl 0 rfl) ?_
      refine qh_get hx hb hH f_22 (by omega) b_i rfl dX5_code_13 ?_
      refine lv_iload_n hx hb dX5_code_16 rfl (lv_at hl 1 rfl) ?_
      refine qh_iald hx hb hK hH (by omega) b_j (j := t) (et) (by omega) (by omega) dX5_code_17 ?_
      refine lv_goto (tgt := 23) hx hb dX5_code_18 (by decide) ?_
      exact hret dX5_code_23 hH (⟨rfl, by rw [codF, if_pos ⟨c_1, Int32.not_le.mp c_9⟩, et, nI_clamp (by omega)]⟩)

set_option maxHeartbeats 4000000 in
set_option maxRecDepth 100000 in
theorem c_X5_cut (l : Launch) (G : qh_G) (z M : Nat) (E : Nat → va_E) (i : Nat) (a : Int32) (b : Int32) (cc : Int32) (x : Int32) (u : Value) (hi : i < M) (b_i : E i = .inr (5, [.int a, .int b, .int cc, u])) : Met l yX5_cut wsX5_cut (qh_R 0) (qh_Pre G z M E [.ref (z + i), .int x]) (qh_Q G z M (qh_i (fun r E' => E = E' ∧ r = cutF b x))) 0 0 (fun q => z ≤ q) := by
  refine qh_metI (cc := cX5_cut) (maxL := 2) (by decide) rfl (Nat.le_of_ble_eq_true rfl) ?_
  intro pZ eZ sZ mZ aZ bZ tZ cZ RR QQ ls hx hb hml hown hts hRf hRl hH hK hl hret
  have hown : sZ.vm.findClass RX5 = some mZ.cls := hown
  have hl : lv_has ls 2 [(0, .ref (z + i)), (1, .int x)] := hl
  have in_X5 : ∀ w ∈ wsX50, w ∈ wsX5_cut := fun w h => List.mem_cons_of_mem _ (List.mem_append_right _ h)
  have f_15 : qh_F G sZ mZ aZ 15 5 1 := qh_F.of hts in_X5 hown hK rfl 1 (by decide) (by decide +kernel)
  refine lv_aload_n hx hb dX5_cut_0 rfl (lv_at hl 0 rfl) ?_
  refine qh_get hx hb hH f_15 (by omega) b_i rfl dX5_cut_1 ?_
  by_cases c_4_0 : b = 0
  · refine lv_lookup (tgt := 32) (off := 28) hx hb dX5_cut_4 (by decide) (by rw [c_4_0] <;> decide) (by decide) ?_
    refine lv_iload_n hx hb dX5_cut_32 rfl (lv_at hl 1 rfl) ?_
    refine lv_i2b (v := x.toInt8.toInt32) hx hb dX5_cut_33 rfl ?_
    exact hret dX5_cut_34 hH (⟨rfl, by simp [cutF, c_4_0]⟩)
  by_cases c_4_1 : b = 1
  · refine lv_lookup (tgt := 35) (off := 31) hx hb dX5_cut_4 (by decide) (by rw [c_4_1] <;> decide) (by decide) ?_
    refine lv_iload_n hx hb dX5_cut_35 rfl (lv_at hl 1 rfl) ?_
    refine lv_i2s (v := x.toInt16.toInt32) hx hb dX5_cut_36 rfl ?_
    exact hret dX5_cut_37 hH (⟨rfl, by simp [cutF, c_4_0, c_4_1]⟩)
  refine lv_lookup (tgt := 38) (off := 34) hx hb dX5_cut_4 (by decide) (by rw [lv_osw (k := 0) c_4_0 (by decide), lv_osw (k := 1) c_4_1 (by decide)] <;> rfl) (by decide) ?_
  refine lv_iload_n hx hb dX5_cut_38 rfl (lv_at hl 1 rfl) ?_
  exact hret dX5_cut_39 hH (⟨rfl, by simp [cutF, c_4_0, c_4_1]⟩)

set_option maxHeartbeats 4000000 in
set_option maxRecDepth 100000 in
theorem c_X0_become (l : Launch) (G : qh_G) (z M : Nat) (E : Nat → va_E) (i : Nat) (t0 : Int32) (a0 : Int32) (b0 : Int32) (v0 : Int64) (t : Int32) (a : Int32) (b : Int32) (v : Int64) (hi : i < M) (b_i : E i = .inr (0, [.int t0, .int a0, .int b0, .long v0])) : Met l yX0_become wsX0_become (qh_R 0) (qh_Pre G z M E [.ref (z + i), .int t, .int a, .int b, .long v]) (qh_Q G z M (qh_v (fun E' => E' i = .inr (0, [.int t, .int a, .int b, .long v]) ∧ ∀ x9, x9 ≠ i → E' x9 = E x9))) 0 0 (fun q => z ≤ q) := by
  refine qh_metV (cc := cX0_become) (maxL := 6) (by decide) rfl (Nat.le_of_ble_eq_true rfl) ?_
  intro pZ eZ sZ mZ aZ bZ tZ cZ RR QQ ls hx hb hml hown hts hRf hRl hH hK hl hret
  have hown : sZ.vm.findClass RX0 = some mZ.cls := hown
  have hl : lv_has ls 6 [(0, .ref (z + i)), (1, .int t), (2, .int a), (3, .int b), (4, .long v)] := hl
  have in_X0 : ∀ w ∈ wsX00, w ∈ wsX0_become := fun w h => List.mem_cons_of_mem _ (List.mem_append_right _ h)
  have w_9 : qh_W G sZ mZ aZ 9 0 0 .int := qh_W.of hts in_X0 tyX0 tyX0_ok nmX0 hown hK rfl 0 (by decide) (by decide +kernel) rfl (by decide +kernel)
  have w_15 : qh_W G sZ mZ aZ 15 0 1 .int := qh_W.of hts in_X0 tyX0 tyX0_ok nmX0 hown hK rfl 1 (by decide) (by decide +kernel) rfl (by decide +kernel)
  have w_18 : qh_W G sZ mZ aZ 18 0 2 .int := qh_W.of hts in_X0 tyX0 tyX0_ok nmX0 hown hK rfl 2 (by decide) (by decide +kernel) rfl (by decide +kernel)
  have w_21 : qh_W G sZ mZ aZ 21 0 3 .long := qh_W.of hts in_X0 tyX0 tyX0_ok nmX0 hown hK rfl 3 (by decide) (by decide +kernel) rfl (by decide +kernel)
  refine lv_aload_n hx hb dX0_become_0 rfl (lv_at hl 0 rfl) ?_
  refine lv_iload_n hx hb dX0_become_1 rfl (lv_at hl 1 rfl) ?_
  refine qh_put (fs' := [.int t, .int a0, .int b0, .long v0]) hx hb hH w_9 (by omega) b_i rfl rfl (Nat.le_of_ble_eq_true rfl) rfl dX0_become_2 (fun E_1 H locs h_i hfr hH _ => ?_)
  have hF : ∀ x9, x9 ≠ i → E_1 x9 = E x9 := fun x9 a0 => hfr x9 a0
  refine lv_aload_n hx hb dX0_become_5 rfl (lv_at hl 0 rfl) ?_
  refine lv_iload_n hx hb dX0_become_6 rfl (lv_at hl 2 rfl) ?_
  refine qh_put (fs' := [.int t, .int a, .int b0, .long v0]) hx hb hH w_15 (by omega) h_i rfl rfl (Nat.le_of_ble_eq_true rfl) rfl dX0_become_7 (fun E_2 H locs h_i hfr hH _ => ?_)
  have hF : ∀ x9, x9 ≠ i → E_2 x9 = E x9 := fun x9 a0 => (hfr x9 a0).trans (hF x9 a0)
  refine lv_aload_n hx hb dX0_become_10 rfl (lv_at hl 0 rfl) ?_
  refine lv_iload_n hx hb dX0_become_11 rfl (lv_at hl 3 rfl) ?_
  refine qh_put (fs' := [.int t, .int a, .int b, .long v0]) hx hb hH w_18 (by omega) h_i rfl rfl (Nat.le_of_ble_eq_true rfl) rfl dX0_become_12 (fun E_3 H locs h_i hfr hH _ => ?_)
  have hF : ∀ x9, x9 ≠ i → E_3 x9 = E x9 := fun x9 a0 => (hfr x9 a0).trans (hF x9 a0)
  refine lv_aload_n hx hb dX0_become_15 rfl (lv_at hl 0 rfl) ?_
  refine lv_lload hx hb dX0_become_16 (lv_at hl 4 rfl) ?_
  refine qh_put (fs' := [.int t, .int a, .int b, .long v]) hx hb hH w_21 (by omega) h_i rfl rfl (Nat.le_of_ble_eq_true rfl) rfl dX0_become_18 (fun E_4 H locs h_i hfr hH _ => ?_)
  have hF : ∀ x9, x9 ≠ i → E_4 x9 = E x9 := fun x9 a0 => (hfr x9 a0).trans (hF x9 a0)
  exact hret dX0_become_21 hH (⟨h_i, hF⟩)

set_option maxHeartbeats 4000000 in
set_option maxRecDepth 100000 in
theorem c_X0_isHelp (l : Launch) (G : qh_G) (z M : Nat) (E : Nat → va_E) (i : Nat) (t : Int32) (a : Int32) (b : Int32) (v : Int64) (hi : i < M) (b_i : E i = .inr (0, [.int t, .int a, .int b, .long v])) : Met l yX0_isHelp wsX0_isHelp (qh_R 0) (qh_Pre G z M E [.ref (z + i)]) (qh_Q G z M (qh_i (fun r E' => E = E' ∧ r = bI (t = 3 ∨ t = 4)))) 0 0 (fun q => z ≤ q) := by
  refine qh_metZ (cc := cX0_isHelp) (maxL := 1) (by decide) rfl (Nat.le_of_ble_eq_true rfl) ?_
  intro pZ eZ sZ mZ aZ bZ tZ cZ RR QQ ls hx hb hml hown hts hRf hRl hH hK hl hret
  have hown : sZ.vm.findClass RX0 = some mZ.cls := hown
  have hl : lv_has ls 1 [(0, .ref (z + i))] := hl
  have in_X0 : ∀ w ∈ wsX00, w ∈ wsX0_isHelp := fun w h => List.mem_cons_of_mem _ (List.mem_append_right _ h)
  have f_9 : qh_F G sZ mZ aZ 9 0 0 := qh_F.of hts in_X0 hown hK rfl 0 (by decide) (by decide +kernel)
  refine lv_aload_n hx hb dX0_isHelp_0 rfl (lv_at hl 0 rfl) ?_
  refine qh_get hx hb hH f_9 (by omega) b_i rfl dX0_isHelp_1 ?_
  refine lv_iconst (v := 3) hx hb dX0_isHelp_4 (by decide) ?_
  refine lv_icmp_eq (tgt := 16) hx hb dX0_isHelp_5 (by decide) (fun c_5 => ?_) (fun c_5 => ?_)
  · refine lv_iconst (v := 1) hx hb dX0_isHelp_16 (by decide) ?_
    refine lv_goto (tgt := 21) hx hb dX0_isHelp_17 (by decide) ?_
    exact hret dX0_isHelp_21 hH (Or.inr rfl) (⟨rfl, by first | rfl | (simp [bI, c_5])⟩)
  · refine lv_aload_n hx hb dX0_isHelp_8 rfl (lv_at hl 0 rfl) ?_
    refine qh_get hx hb hH f_9 (by omega) b_i rfl dX0_isHelp_9 ?_
    refine lv_iconst (v := 4) hx hb dX0_isHelp_12 (by decide) ?_
    refine lv_icmp_ne (tgt := 20) hx hb dX0_isHelp_13 (by decide) (fun c_13 => ?_) (fun c_13 => ?_)
    · refine lv_iconst (v := 0) hx hb dX0_isHelp_20 (by decide) ?_
      exact hret dX0_isHelp_21 hH (Or.inl rfl) (⟨rfl, by first | rfl | (simp [bI, c_5, c_13])⟩)
    · refine lv_iconst (v := 1) hx hb dX0_isHelp_16 (by decide) ?_
      refine lv_goto (tgt := 21) hx hb dX0_isHelp_17 (by decide) ?_
      exact hret dX0_isHelp_21 hH (Or.inr rfl) (⟨rfl, by first | rfl | (simp [bI, c_5, c_13])⟩)

set_option maxHeartbeats 4000000 in
set_option maxRecDepth 100000 in
theorem c_X0_amount (l : Launch) (G : qh_G) (z M : Nat) (E : Nat → va_E) (i : Nat) (i2 : Nat) (j2 : Nat) (k2 : Nat) (n : Nat) (t : Int32) (a : Int32) (b : Int32) (v : Int64) (kd : Nat → Int32) (pa : Nat → Int32) (hi : i < M ∧ i2 < M ∧ j2 < M ∧ k2 < M) (hn : n ≤ 3) (b_i : E i = .inr (0, [.int t, .int a, .int b, .long v])) (b_i2 : E i2 = .inr (1, [.int (nI n), .ref (z + j2), .ref (z + k2)])) (b_j2 : E j2 = qa_I G 3 kd) (b_k2 : E k2 = qa_I G 3 pa) : Met l yX0_amount wsX0_amount (qh_R 2) (qh_Pre G z M E [.ref (z + i), .ref (z + i2)]) (qh_Q G z M (qh_l (fun r E' => E = E' ∧ r = amt t n kd pa v))) 0 0 (fun q => z ≤ q) := by
  refine qh_metL (cc := cX0_amount) (maxL := 2) (by decide) rfl (Nat.le_of_ble_eq_true rfl) ?_
  intro pZ eZ sZ mZ aZ bZ tZ cZ RR QQ ls hx hb hml hown hts hRf hRl hH hK hl hret
  have hown : sZ.vm.findClass RX0 = some mZ.cls := hown
  have hl : lv_has ls 2 [(0, .ref (z + i)), (1, .ref (z + i2))] := hl
  have in_X0 : ∀ w ∈ wsX00, w ∈ wsX0_amount := fun w h => List.mem_cons_of_mem _ (List.mem_append_left _ (List.mem_append_right _ h))
  have f_9 : qh_F G sZ mZ aZ 9 0 0 := qh_F.of hts in_X0 hown hK rfl 0 (by decide) (by decide +kernel)
  have f_21 : qh_F G sZ mZ aZ 21 0 3 := qh_F.of hts in_X0 hown hK rfl 3 (by decide) (by decide +kernel)
  refine lv_aload_n hx hb dX0_amount_0 rfl (lv_at hl 0 rfl) ?_
  refine qh_get hx hb hH f_9 (by omega) b_i rfl dX0_amount_1 ?_
  by_cases c_4_3 : t = 3
  · refine lv_lookup (tgt := 32) (off := 28) hx hb dX0_amount_4 (by decide) (by rw [c_4_3] <;> decide) (by decide) ?_
    refine lv_aload_n hx hb dX0_amount_32 rfl (lv_at hl 1 rfl) ?_
    refine lv_aload_n hx hb dX0_amount_33 rfl (lv_at hl 0 rfl) ?_
    refine qh_get hx hb hH f_21 (by omega) b_i rfl dX0_amount_34 ?_
    refine qh_runV (As := [.long v]) (rest := []) (C := RX1) ⟨hx, hb, hml, hown, hts⟩ hK hH (c_X1_strength l G z M E i2 j2 k2 n kd pa v (by omega) (by omega) b_i2 b_j2 b_k2) (cwV 1 hts gX0_amount_X1_strength rfl rfl rfl (by decide +kernel) (by rw [hRf, hRl]; exact ⟨Nat.le_of_ble_eq_true rfl, Nat.le_of_ble_eq_true rfl⟩)) (by omega) b_i2 rfl rfl hl.1 rfl (Nat.le_of_ble_eq_true rfl) dX0_amount_37 ⟨Nat.zero_le _, Nat.zero_le _⟩ (qh_kki fun r_37 E_1 H locs hpost hH => ?_)
    obtain ⟨rfl, rfl⟩ := hpost
    refine lv_i2l (v := (strg n kd pa v).toInt64) hx hb dX0_amount_40 rfl ?_
    exact hret dX0_amount_41 hH (⟨rfl, by simp [amt, c_4_3]⟩)
  by_cases c_4_4 : t = 4
  · refine lv_lookup (tgt := 42) (off := 38) hx hb dX0_amount_4 (by decide) (by rw [c_4_4] <;> decide) (by decide) ?_
    refine lv_aload_n hx hb dX0_amount_42 rfl (lv_at hl 1 rfl) ?_
    refine lv_aload_n hx hb dX0_amount_43 rfl (lv_at hl 0 rfl) ?_
    refine qh_get hx hb hH f_21 (by omega) b_i rfl dX0_amount_44 ?_
    refine qh_runV (As := [.long v]) (rest := []) (C := RX1) ⟨hx, hb, hml, hown, hts⟩ hK hH (c_X1_strength l G z M E i2 j2 k2 n kd pa v (by omega) (by omega) b_i2 b_j2 b_k2) (cwV 1 hts gX0_amount_X1_strength rfl rfl rfl (by decide +kernel) (by rw [hRf, hRl]; exact ⟨Nat.le_of_ble_eq_true rfl, Nat.le_of_ble_eq_true rfl⟩)) (by omega) b_i2 rfl rfl hl.1 rfl (Nat.le_of_ble_eq_true rfl) dX0_amount_47 ⟨Nat.zero_le _, Nat.zero_le _⟩ (qh_kki fun r_47 E_2 H locs hpost hH => ?_)
    obtain ⟨rfl, rfl⟩ := hpost
    refine lv_ineg hx hb dX0_amount_50 ?_
    refine lv_i2l (v := (-(strg n kd pa v)).toInt64) hx hb dX0_amount_51 rfl ?_
    exact hret dX0_amount_52 hH (⟨rfl, by simp [amt, c_4_3, c_4_4]⟩)
  refine lv_lookup (tgt := 53) (off := 49) hx hb dX0_amount_4 (by decide) (by rw [lv_osw (k := 3) c_4_3 (by decide), lv_osw (k := 4) c_4_4 (by decide)] <;> rfl) (by decide) ?_
  refine lv_aload_n hx hb dX0_amount_53 rfl (lv_at hl 0 rfl) ?_
  refine qh_get hx hb hH f_21 (by omega) b_i rfl dX0_amount_54 ?_
  exact hret dX0_amount_57 hH (⟨rfl, by simp [amt, c_4_3, c_4_4]⟩)

set_option maxHeartbeats 4000000 in
set_option maxRecDepth 100000 in
theorem c_X3_forgetWhatWas (l : Launch) (G : qh_G) (z M : Nat) (E : Nat → va_E) (i : Nat) (j : Nat) (k : Nat) (n : Int32) (f : Nat → Int64) (g : Nat → Int64) (hi : i < M ∧ j < M ∧ k < M) (hd : i ≠ k ∧ j ≠ k) (b_i : E i = .inr (3, [.int n, .ref (z + j), .ref (z + k)])) (b_j : E j = qa_J G 16 f) (b_k : E k = qa_J G 16 g) : Met l yX3_forgetWhatWas wsX3_forgetWhatWas (qh_R 1) (qh_Pre G z M E [.ref (z + i)]) (qh_Q G z M (qh_v (fun E' => E' k = qa_J G 16 f ∧ ∀ x9, x9 ≠ k → E' x9 = E x9))) 0 0 (fun q => z ≤ q) := by
  refine qh_metV (cc := cX3_forgetWhatWas) (maxL := 1) (by decide) rfl (Nat.le_of_ble_eq_true rfl) ?_
  intro pZ eZ sZ mZ aZ bZ tZ cZ RR QQ ls hx hb hml hown hts hRf hRl hH hK hl hret
  have hown : sZ.vm.findClass RX3 = some mZ.cls := hown
  have hl : lv_has ls 1 [(0, .ref (z + i))] := hl
  have in_X3 : ∀ w ∈ wsX30, w ∈ wsX3_forgetWhatWas := fun w h => List.mem_cons_of_mem _ (List.mem_append_right _ h)
  have f_15 : qh_F G sZ mZ aZ 15 3 1 := qh_F.of hts in_X3 hown hK rfl 1 (by decide) (by decide +kernel)
  have f_19 : qh_F G sZ mZ aZ 19 3 2 := qh_F.of hts in_X3 hown hK rfl 2 (by decide) (by decide +kernel)
  have j_22 := hts (.methodLink RX3 22 arraycopyName) (by decide +kernel)
  have jn_22 := hts (.native arraycopyName) (by decide +kernel)
  have js_22 := hts (.static arraycopyName) (by decide +kernel)
  have ji_22 := hts (.initialized "java/lang/System") (by decide +kernel)
  refine lv_aload_n hx hb dX3_forgetWhatWas_0 rfl (lv_at hl 0 rfl) ?_
  refine qh_get hx hb hH f_15 (by omega) b_i rfl dX3_forgetWhatWas_1 ?_
  refine lv_iconst (v := 0) hx hb dX3_forgetWhatWas_4 (by decide) ?_
  refine lv_aload_n hx hb dX3_forgetWhatWas_5 rfl (lv_at hl 0 rfl) ?_
  refine qh_get hx hb hH f_19 (by omega) b_i rfl dX3_forgetWhatWas_6 ?_
  refine lv_iconst (v := 0) hx hb dX3_forgetWhatWas_9 (by decide) ?_
  refine lv_bipush (v := 16) hx hb dX3_forgetWhatWas_10 (by decide) ?_
  refine qh_copyJ hx hb (hml.trans hl.1.symm) hown j_22 jn_22 js_22 ji_22 hK hH (by omega) (by omega) b_j b_k (sp := 0) (dp := 0) (n := 16) (rfl) (rfl) (rfl) (by omega) (by omega) (by decide) (by decide) (by rw [hRf]; exact Nat.le_of_ble_eq_true rfl) (by rw [hRl]; exact Nat.le_of_ble_eq_true rfl) dX3_forgetWhatWas_12 (fun E_1 H locs h_k hfr hH => ?_)
  obtain ⟨E_2, h_k, hfr, hH⟩ := qh_renJ (g := f) hH h_k hfr (fun k hk => cpy_0 hk)
  have hF : ∀ x9, x9 ≠ k → E_2 x9 = E x9 := fun x9 a0 => hfr x9 a0
  exact hret dX3_forgetWhatWas_15 hH (⟨h_k, hF⟩)

set_option maxHeartbeats 4000000 in
set_option maxRecDepth 100000 in
theorem c_X3_becomeLike (l : Launch) (G : qh_G) (z M : Nat) (E : Nat → va_E) (i : Nat) (j : Nat) (k : Nat) (i2 : Nat) (j2 : Nat) (n : Int32) (n2 : Int32) (f : Nat → Int64) (g : Nat → Int64) (f2 : Nat → Int64) (u2 : Value) (hi : i < M ∧ j < M ∧ k < M ∧ i2 < M ∧ j2 < M) (hd : i ≠ j ∧ i ≠ k ∧ j ≠ k ∧ i2 ≠ i ∧ i2 ≠ j ∧ i2 ≠ k ∧ j2 ≠ i ∧ j2 ≠ j ∧ j2 ≠ k) (b_i : E i = .inr (3, [.int n, .ref (z + j), .ref (z + k)])) (b_j : E j = qa_J G 16 f) (b_k : E k = qa_J G 16 g) (b_i2 : E i2 = .inr (3, [.int n2, .ref (z + j2), u2])) (b_j2 : E j2 = qa_J G 16 f2) : Met l yX3_becomeLike wsX3_becomeLike (qh_R 2) (qh_Pre G z M E [.ref (z + i), .ref (z + i2)]) (qh_Q G z M (qh_v (fun E' => E' i = .inr (3, [.int n2, .ref (z + j), .ref (z + k)]) ∧ E' j = qa_J G 16 f2 ∧ E' k = qa_J G 16 f2 ∧ ∀ x9, x9 ≠ i → x9 ≠ j → x9 ≠ k → E' x9 = E x9))) 0 0 (fun q => z ≤ q) := by
  refine qh_metV (cc := cX3_becomeLike) (maxL := 2) (by decide) rfl (Nat.le_of_ble_eq_true rfl) ?_
  intro pZ eZ sZ mZ aZ bZ tZ cZ RR QQ ls hx hb hml hown hts hRf hRl hH hK hl hret
  have hown : sZ.vm.findClass RX3 = some mZ.cls := hown
  have hl : lv_has ls 2 [(0, .ref (z + i)), (1, .ref (z + i2))] := hl
  have in_X3 : ∀ w ∈ wsX30, w ∈ wsX3_becomeLike := fun w h => List.mem_cons_of_mem _ (List.mem_append_right _ h)
  have f_9 : qh_F G sZ mZ aZ 9 3 0 := qh_F.of hts in_X3 hown hK rfl 0 (by decide) (by decide +kernel)
  have w_9 : qh_W G sZ mZ aZ 9 3 0 .int := qh_W.of hts in_X3 tyX3 tyX3_ok nmX3 hown hK rfl 0 (by decide) (by decide +kernel) rfl (by decide +kernel)
  have f_15 : qh_F G sZ mZ aZ 15 3 1 := qh_F.of hts in_X3 hown hK rfl 1 (by decide) (by decide +kernel)
  have j_22 := hts (.methodLink RX3 22 arraycopyName) (by decide +kernel)
  have jn_22 := hts (.native arraycopyName) (by decide +kernel)
  have js_22 := hts (.static arraycopyName) (by decide +kernel)
  have ji_22 := hts (.initialized "java/lang/System") (by decide +kernel)
  refine lv_aload_n hx hb dX3_becomeLike_0 rfl (lv_at hl 0 rfl) ?_
  refine lv_aload_n hx hb dX3_becomeLike_1 rfl (lv_at hl 1 rfl) ?_
  refine qh_get hx hb hH f_9 (by omega) b_i2 rfl dX3_becomeLike_2 ?_
  refine qh_put (fs' := [.int n2, .ref (z + j), .ref (z + k)]) hx hb hH w_9 (by omega) b_i rfl rfl (Nat.le_of_ble_eq_true rfl) rfl dX3_becomeLike_5 (fun E_1 H locs h_i hfr hH _ => ?_)
  have hF : ∀ x9, x9 ≠ i → E_1 x9 = E x9 := fun x9 a0 => hfr x9 a0
  refine lv_aload_n hx hb dX3_becomeLike_8 rfl (lv_at hl 1 rfl) ?_
  refine qh_get hx hb hH f_15 (by omega) ((hF i2 (by omega)).trans b_i2) rfl dX3_becomeLike_9 ?_
  refine lv_iconst (v := 0) hx hb dX3_becomeLike_12 (by decide) ?_
  refine lv_aload_n hx hb dX3_becomeLike_13 rfl (lv_at hl 0 rfl) ?_
  refine qh_get hx hb hH f_15 (by omega) h_i rfl dX3_becomeLike_14 ?_
  refine lv_iconst (v := 0) hx hb dX3_becomeLike_17 (by decide) ?_
  refine lv_bipush (v := 16) hx hb dX3_becomeLike_18 (by decide) ?_
  refine qh_copyJ hx hb (hml.trans hl.1.symm) hown j_22 jn_22 js_22 ji_22 hK hH (by omega) (by omega) ((hF j2 (by omega)).trans b_j2) ((hF j (by omega)).trans b_j) (sp := 0) (dp := 0) (n := 16) (rfl) (rfl) (rfl) (by omega) (by omega) (by decide) (by decide) (by rw [hRf]; exact Nat.le_of_ble_eq_true rfl) (by rw [hRl]; exact Nat.le_of_ble_eq_true rfl) dX3_becomeLike_20 (fun E_2 H locs h_j hfr hH => ?_)
  obtain ⟨E_3, h_j, hfr, hH⟩ := qh_renJ (g := f2) hH h_j hfr (fun k hk => cpy_0 hk)
  have h_i := (hfr i (by omega)).trans h_i
  have hF : ∀ x9, x9 ≠ i → x9 ≠ j → E_3 x9 = E x9 := fun x9 a0 a1 => (hfr x9 a1).trans (hF x9 a0)
  refine lv_aload_n hx hb dX3_becomeLike_23 rfl (lv_at hl 0 rfl) ?_
  refine qh_runV (As := []) (rest := []) (C := RX3) ⟨hx, hb, hml, hown, hts⟩ hK hH (c_X3_forgetWhatWas l G z M E_3 i j k n2 f2 g (by omega) (by omega) h_i h_j ((hF k (by omega) (by omega)).trans b_k)) (cwV 0 hts gX3_becomeLike_X3_forgetWhatWas rfl rfl rfl (by decide +kernel) (by rw [hRf, hRl]; exact ⟨Nat.le_of_ble_eq_true rfl, Nat.le_of_ble_eq_true rfl⟩)) (by omega) h_i rfl rfl hl.1 rfl (Nat.le_of_ble_eq_true rfl) dX3_becomeLike_24 ⟨Nat.zero_le _, Nat.zero_le _⟩ (qh_kkv fun E_4 H locs hpost hH => ?_)
  obtain ⟨h_k, hfr⟩ := hpost
  have h_i := (hfr i (by omega)).trans h_i
  have h_j := (hfr j (by omega)).trans h_j
  have hF : ∀ x9, x9 ≠ i → x9 ≠ j → x9 ≠ k → E_4 x9 = E x9 := fun x9 a0 a1 a2 => (hfr x9 a2).trans (hF x9 a0 a1)
  exact hret dX3_becomeLike_27 hH (⟨h_i, h_j, h_k, hF⟩)

set_option maxHeartbeats 4000000 in
set_option maxRecDepth 100000 in
theorem c_X3_suffer (l : Launch) (G : qh_G) (z M : Nat) (E : Nat → va_E) (i : Nat) (j : Nat) (k : Nat) (n : Nat) (ia : Nat) (i2 : Nat) (j2 : Nat) (k2 : Nat) (m2 : Nat) (a : Nat) (b : Nat) (t : Int32) (v : Int64) (f : Nat → Int64) (g : Nat → Int64) (kd : Nat → Int32) (pa : Nat → Int32) (hi : i < M ∧ j < M ∧ k < M ∧ ia < M ∧ i2 < M ∧ j2 < M ∧ k2 < M) (hd : i ≠ j ∧ i ≠ k ∧ j ≠ k ∧ ia ≠ j ∧ ia ≠ k ∧ i2 ≠ j ∧ i2 ≠ k ∧ j2 ≠ j ∧ j2 ≠ k ∧ k2 ≠ j ∧ k2 ≠ k) (hn : n ≤ 16 ∧ m2 ≤ 3) (hab : a ≤ b ∧ b < n) (b_i : E i = .inr (3, [.int (nI n), .ref (z + j), .ref (z + k)])) (b_j : E j = qa_J G 16 f) (b_k : E k = qa_J G 16 g) (b_ia : E ia = .inr (0, [.int t, .int (nI a), .int (nI b), .long v])) (b_i2 : E i2 = .inr (1, [.int (nI m2), .ref (z + j2), .ref (z + k2)])) (b_j2 : E j2 = qa_I G 3 kd) (b_k2 : E k2 = qa_I G 3 pa) : Met l yX3_suffer wsX3_suffer (qh_R 3) (qh_Pre G z M E [.ref (z + i), .ref (z + ia), .ref (z + i2)]) (qh_Q G z M (qh_i (fun r E' => r = nI (othN f t (amt t m2 kd pa v) a (b + 1 - a)) ∧ E' j = qa_J G 16 (actF f t (amt t m2 kd pa v) a (b + 1 - a)) ∧ E' k = qa_J G 16 (hisF g f t (amt t m2 kd pa v) a (b + 1 - a)) ∧ ∀ x9, x9 ≠ j → x9 ≠ k → E' x9 = E x9))) 0 0 (fun q => z ≤ q) := by
  refine qh_metI (cc := cX3_suffer) (maxL := 9) (by decide) rfl (Nat.le_of_ble_eq_true rfl) ?_
  intro pZ eZ sZ mZ aZ bZ tZ cZ RR QQ ls hx hb hml hown hts hRf hRl hH hK hl hret
  have hown : sZ.vm.findClass RX3 = some mZ.cls := hown
  have hl : lv_has ls 9 [(0, .ref (z + i)), (1, .ref (z + ia)), (2, .ref (z + i2))] := hl
  have in_X0 : ∀ w ∈ wsX00, w ∈ wsX3_suffer := fun w h => List.mem_cons_of_mem _ (List.mem_append_left _ (List.mem_append_left _ (List.mem_append_right _ h)))
  have in_X3 : ∀ w ∈ wsX30, w ∈ wsX3_suffer := fun w h => List.mem_cons_of_mem _ (List.mem_append_left _ (List.mem_append_right _ h))
  have f_31 : qh_F G sZ mZ aZ 31 0 1 := qh_F.of hts in_X0 hown hK rfl 1 (by decide) (by decide +kernel)
  have f_40 : qh_F G sZ mZ aZ 40 0 2 := qh_F.of hts in_X0 hown hK rfl 2 (by decide) (by decide +kernel)
  have f_15 : qh_F G sZ mZ aZ 15 3 1 := qh_F.of hts in_X3 hown hK rfl 1 (by decide) (by decide +kernel)
  have f_47 : qh_F G sZ mZ aZ 47 0 0 := qh_F.of hts in_X0 hown hK rfl 0 (by decide) (by decide +kernel)
  have f_19 : qh_F G sZ mZ aZ 19 3 2 := qh_F.of hts in_X3 hown hK rfl 2 (by decide) (by decide +kernel)
  have j_54 := hts (.methodLink RX3 54 Lib.MathLoose.max_long.x) (by decide +kernel)
  have js_54 := hts (.static Lib.MathLoose.max_long.x) (by decide +kernel)
  have ji_Math := hts (.initialized "java/lang/Math") (by decide +kernel)
  have jc_54 := hts (.code Lib.MathLoose.max_long.x Lib.MathLoose.max_long.code 4 (some .long)) (by decide +kernel)
  refine lv_aload_n hx hb dX3_suffer_0 rfl (lv_at hl 0 rfl) ?_
  refine lv_aload_n hx hb dX3_suffer_1 rfl (lv_at hl 1 rfl) ?_
  refine qh_get hx hb hH f_31 (by omega) b_ia rfl dX3_suffer_2 ?_
  refine qh_runV (As := [.int (nI a)]) (rest := []) (C := RX3) ⟨hx, hb, hml, hown, hts⟩ hK hH (c_X3_has l G z M E i (by omega) (nI n) (.ref (z + j)) (.ref (z + k)) (nI a) b_i) (cwV 1 hts gX3_suffer_X3_has rfl rfl rfl (by decide +kernel) (by rw [hRf, hRl]; exact ⟨Nat.le_of_ble_eq_true rfl, Nat.le_of_ble_eq_true rfl⟩)) (by omega) b_i rfl rfl hl.1 rfl (Nat.le_of_ble_eq_true rfl) dX3_suffer_5 ⟨Nat.zero_le _, Nat.zero_le _⟩ (qh_kki fun r_5 E_1 H locs hpost hH => ?_)
  obtain ⟨rfl, rfl⟩ := hpost
  refine lv_if_eq (tgt := 22) hx hb dX3_suffer_8 (by decide) (fun c_8 => ?_) (fun c_8 => ?_)
  · have c_8 := bI_eq.mp c_8
    exact absurd (nI_has (by omega) (by omega)) c_8
  · have c_8 := bI_ne.mp c_8
    refine lv_aload_n hx hb dX3_suffer_11 rfl (lv_at hl 0 rfl) ?_
    refine lv_aload_n hx hb dX3_suffer_12 rfl (lv_at hl 1 rfl) ?_
    refine qh_get hx hb hH f_40 (by omega) b_ia rfl dX3_suffer_13 ?_
    refine qh_runV (As := [.int (nI b)]) (rest := []) (C := RX3) ⟨hx, hb, hml, hown, hts⟩ hK hH (c_X3_has l G z M E i (by omega) (nI n) (.ref (z + j)) (.ref (z + k)) (nI b) b_i) (cwV 1 hts gX3_suffer_X3_has rfl rfl rfl (by decide +kernel) (by rw [hRf, hRl]; exact ⟨Nat.le_of_ble_eq_true rfl, Nat.le_of_ble_eq_true rfl⟩)) (by omega) b_i rfl rfl hl.1 rfl (Nat.le_of_ble_eq_true rfl) dX3_suffer_16 ⟨Nat.zero_le _, Nat.zero_le _⟩ (qh_kki fun r_16 E_2 H locs hpost hH => ?_)
    obtain ⟨rfl, rfl⟩ := hpost
    refine lv_if_ne (tgt := 24) hx hb dX3_suffer_19 (by decide) (fun c_19 => ?_) (fun c_19 => ?_)
    · have c_19 := bI_ne.mp c_19
      refine lv_aload_n hx hb dX3_suffer_24 rfl (lv_at hl 1 rfl) ?_
      refine lv_aload_n hx hb dX3_suffer_25 rfl (lv_at hl 2 rfl) ?_
      refine qh_runV (As := [.ref (z + i2)]) (rest := []) (C := RX0) ⟨hx, hb, hml, hown, hts⟩ hK hH (c_X0_amount l G z M E ia i2 j2 k2 m2 t (nI a) (nI b) v kd pa (by omega) (by omega) b_ia b_i2 b_j2 b_k2) (cwV 1 hts gX3_suffer_X0_amount rfl rfl rfl (by decide +kernel) (by rw [hRf, hRl]; exact ⟨Nat.le_of_ble_eq_true rfl, Nat.le_of_ble_eq_true rfl⟩)) (by omega) b_ia rfl rfl hl.1 rfl (Nat.le_of_ble_eq_true rfl) dX3_suffer_26 ⟨Nat.zero_le _, Nat.zero_le _⟩ (qh_kkl fun r_26 E_3 H locs hpost hH => ?_)
      obtain ⟨rfl, rfl⟩ := hpost
      refine lv_lstore_n (lv' := [(3, .long (amt t m2 kd pa v)), (0, .ref (z + i)), (1, .ref (z + ia)), (2, .ref (z + i2))]) hx hb dX3_suffer_29 rfl hl (by decide) rfl (fun ls hl => ?_)
      refine lv_iconst (v := 0) hx hb dX3_suffer_30 (by decide) ?_
      refine lv_istore (lv' := [(5, .int 0), (3, .long (amt t m2 kd pa v)), (0, .ref (z + i)), (1, .ref (z + ia)), (2, .ref (z + i2))]) hx hb dX3_suffer_31 hl (by decide) rfl (fun ls hl => ?_)
      refine lv_aload_n hx hb dX3_suffer_33 rfl (lv_at hl 3 rfl) ?_
      refine qh_get hx hb hH f_31 (by omega) b_ia rfl dX3_suffer_34 ?_
      refine lv_istore (lv' := [(6, .int (nI a)), (5, .int 0), (3, .long (amt t m2 kd pa v)), (0, .ref (z + i)), (1, .ref (z + ia)), (2, .ref (z + i2))]) hx hb dX3_suffer_37 hl (by decide) rfl (fun ls hl => ?_)
      have L_39 : ∀ fu : Nat, ∀ q : Nat, (q ≤ b + 1 - a) → (b + 1 - a - q < fu) → ∀ Ek : Nat → va_E, Ek j = qa_J G 16 (actF f t (amt t m2 kd pa v) a q) → Ek k = qa_J G 16 (hisF g f t (amt t m2 kd pa v) a q) → (∀ x9, x9 ≠ j → x9 ≠ k → Ek x9 = E x9) → ∀ (H : Heap) (locs : List Loc), qh_H G z M Ek sZ.heap H locs → ∀ ls : Array Slot, lv_has ls 9 [(0, .ref (z + i)), (1, .ref (z + ia)), (2, .ref (z + i2)), (3, .long (amt t m2 kd pa v)), (5, .int (nI (othN f t (amt t m2 kd pa v) a q))), (6, .int (nI (a + q)))] → W pZ l eZ RR sZ mZ aZ bZ tZ cZ H locs 0 0 QQ (F0 mZ 39 ls []) := by
        intro fu
        induction fu with
        | zero =>
          intro q hq hfuel
          exact absurd hfuel (by omega)
        | succ fu ih =>
          intro q hq hfuel Ek h_j h_k hF H locs hH ls hl
          refine lv_iload hx hb dX3_suffer_39 (lv_at hl 5 rfl) ?_
          refine lv_aload_n hx hb dX3_suffer_41 rfl (lv_at hl 1 rfl) ?_
          refine qh_get hx hb hH f_40 (by omega) ((hF ia (by omega) (by omega)).trans b_ia) rfl dX3_suffer_42 ?_
          refine lv_icmp_gt (tgt := 115) hx hb dX3_suffer_45 (by decide) (fun c_45 => ?_) (fun c_45 => ?_)
          · have hk : q = b + 1 - a := by
              rcases Nat.lt_or_ge (a + q) (b + 1) with w | w
              · exact absurd c_45 (nI_nlt (by omega) (by omega))
              · omega
            subst hk
            refine lv_iload hx hb dX3_suffer_115 (lv_at hl 4 rfl) ?_
            exact hret dX3_suffer_117 hH (⟨rfl, h_j, h_k, hF⟩)
          · have hk : a + q < b + 1 := by
              rcases Nat.lt_or_ge (a + q) (b + 1) with w | w
              · exact w
              · exact absurd (nI_lt (by omega) (by omega)) c_45
            refine lv_aload_n hx hb dX3_suffer_48 rfl (lv_at hl 0 rfl) ?_
            refine qh_get hx hb hH f_15 (by omega) ((hF i (by omega) (by omega)).trans b_i) rfl dX3_suffer_49 ?_
            refine lv_iload hx hb dX3_suffer_52 (lv_at hl 5 rfl) ?_
            refine qh_lald hx hb hK hH (by omega) h_j (j := a + q) (rfl) (by omega) (by omega) dX3_suffer_54 ?_
            refine qh_topl (y := f (a + q)) (actF_at ..) ?_
            refine lv_aload_n hx hb dX3_suffer_55 rfl (lv_at hl 1 rfl) ?_
            refine qh_get hx hb hH f_47 (by omega) ((hF ia (by omega) (by omega)).trans b_ia) rfl dX3_suffer_56 ?_
            refine lv_lload_n hx hb dX3_suffer_59 rfl (lv_at hl 3 rfl) ?_
            refine qh_runS (As := [.long (f (a + q)), .int t, .long (amt t m2 kd pa v)]) (rest := []) ⟨hx, hb, hml, hown, hts⟩ hK hH (c_X3_changed l G z M Ek (f (a + q)) t (amt t m2 kd pa v)) (va_cwS 3 hts gX3_suffer_X3_changed rfl rfl rfl (by decide +kernel) (by rw [hRf, hRl]; exact ⟨Nat.le_of_ble_eq_true rfl, Nat.le_of_ble_eq_true rfl⟩)) rfl hl.1 rfl (Nat.le_of_ble_eq_true rfl) dX3_suffer_60 ⟨Nat.zero_le _, Nat.zero_le _⟩ (qh_kkl fun r_60 E_4 H locs hpost hH => ?_)
            obtain ⟨rfl, rfl⟩ := hpost
            refine lv_lstore (lv' := [(7, .long (chg (f (a + q)) t (amt t m2 kd pa v))), (0, .ref (z + i)), (1, .ref (z + ia)), (2, .ref (z + i2)), (3, .long (amt t m2 kd pa v)), (5, .int (nI (othN f t (amt t m2 kd pa v) a q))), (6, .int (nI (a + q)))]) hx hb dX3_suffer_63 hl (by decide) rfl (fun ls hl => ?_)
            refine lv_lload hx hb dX3_suffer_65 (lv_at hl 0 rfl) ?_
            refine lv_aload_n hx hb dX3_suffer_67 rfl (lv_at hl 1 rfl) ?_
            refine qh_get hx hb hH f_15 (by omega) ((hF i (by omega) (by omega)).trans b_i) rfl dX3_suffer_68 ?_
            refine lv_iload hx hb dX3_suffer_71 (lv_at hl 6 rfl) ?_
            refine qh_lald hx hb hK hH (by omega) h_j (j := a + q) (rfl) (by omega) (by omega) dX3_suffer_73 ?_
            refine qh_topl (y := f (a + q)) (actF_at ..) ?_
            refine W.lcmp hx hb dX3_suffer_74 ?_
            refine lv_if_eq (tgt := 81) hx hb dX3_suffer_75 (by decide) (fun c_75 => ?_) (fun c_75 => ?_)
            · have c_75 := (lg_cmp_eq _ _).mp c_75
              refine lv_aload_n hx hb dX3_suffer_81 rfl (lv_at hl 1 rfl) ?_
              refine qh_get hx hb hH f_15 (by omega) ((hF i (by omega) (by omega)).trans b_i) rfl dX3_suffer_82 ?_
              refine lv_iload hx hb dX3_suffer_85 (lv_at hl 6 rfl) ?_
              refine lv_lload hx hb dX3_suffer_87 (lv_at hl 0 rfl) ?_
              refine qh_last hx hb hK hH (by omega) h_j (j := a + q) (rfl) (by omega) (by omega) dX3_suffer_89 (fun E_5 H locs h_j hfr hH _ => ?_)
              have h_j : E_5 j = qa_J G 16 (actF f t (amt t m2 kd pa v) a (q + 1)) := h_j.trans (congrArg (qa_J G 16) (actF_s ..))
              have h_k := (hfr k (by omega)).trans h_k
              have hF : ∀ x9, x9 ≠ j → x9 ≠ k → E_5 x9 = E x9 := fun x9 a0 a1 => (hfr x9 a0).trans (hF x9 a0 a1)
              refine lv_aload_n hx hb dX3_suffer_90 rfl (lv_at hl 1 rfl) ?_
              refine qh_get hx hb hH f_19 (by omega) ((hF i (by omega) (by omega)).trans b_i) rfl dX3_suffer_91 ?_
              refine lv_iload hx hb dX3_suffer_94 (lv_at hl 6 rfl) ?_
              refine lv_aload_n hx hb dX3_suffer_96 rfl (lv_at hl 1 rfl) ?_
              refine qh_get hx hb hH f_19 (by omega) ((hF i (by omega) (by omega)).trans b_i) rfl dX3_suffer_97 ?_
              refine lv_iload hx hb dX3_suffer_100 (lv_at hl 6 rfl) ?_
              refine qh_lald hx hb hK hH (by omega) h_k (j := a + q) (rfl) (by omega) (by omega) dX3_suffer_102 ?_
              refine qh_topl (y := g (a + q)) (hisF_at ..) ?_
              refine lv_lload hx hb dX3_suffer_103 (lv_at hl 0 rfl) ?_
              refine va_mmax_long hx hb (hml.trans hl.1.symm) hown j_54 js_54 ji_Math jc_54 (by rw [hRf]; exact Nat.le_of_ble_eq_true rfl) (by rw [hRl]; exact Nat.le_of_ble_eq_true rfl) (Nat.zero_le _) (Nat.zero_le _) dX3_suffer_105 ?_
              refine qh_topl (y := mx (g (a + q)) (chg (f (a + q)) t (amt t m2 kd pa v))) (mx_cls _ _) ?_
              refine qh_last hx hb hK hH (by omega) h_k (j := a + q) (rfl) (by omega) (by omega) dX3_suffer_108 (fun E_6 H locs h_k hfr hH _ => ?_)
              have h_k : E_6 k = qa_J G 16 (hisF g f t (amt t m2 kd pa v) a (q + 1)) := h_k.trans (congrArg (qa_J G 16) (hisF_s ..))
              have h_j := (hfr j (by omega)).trans h_j
              have hF : ∀ x9, x9 ≠ j → x9 ≠ k → E_6 x9 = E x9 := fun x9 a0 a1 => (hfr x9 a1).trans (hF x9 a0 a1)
              refine lv_iinc (v := nI ((a + q) + 1)) (lv' := [(6, .int (nI ((a + q) + 1))), (7, .long (chg (f (a + q)) t (amt t m2 kd pa v))), (0, .ref (z + i)), (1, .ref (z + ia)), (2, .ref (z + i2)), (3, .long (amt t m2 kd pa v)), (5, .int (nI (othN f t (amt t m2 kd pa v) a q)))]) hx hb dX3_suffer_109 hl (k := 6) rfl (qn_inc (a + q)) (by decide) rfl (fun ls hl => ?_)
              refine lv_goto (tgt := 39) hx hb dX3_suffer_112 (by decide) ?_
              first | rw [← othN_y c_75] at hl | rw [← othN_n c_75] at hl
              exact ih (q + 1) (by omega) (by omega) E_6 h_j h_k (fun x9 a0 a1 => hF x9 a0 a1) _ _ hH ls (lv_sub hl [2, 3, 4, 5, 6, 0] rfl)
            · have c_75 := (lg_cmp_ne _ _).mp c_75
              refine lv_iinc (v := nI ((othN f t (amt t m2 kd pa v) a q) + 1)) (lv' := [(5, .int (nI ((othN f t (amt t m2 kd pa v) a q) + 1))), (7, .long (chg (f (a + q)) t (amt t m2 kd pa v))), (0, .ref (z + i)), (1, .ref (z + ia)), (2, .ref (z + i2)), (3, .long (amt t m2 kd pa v)), (6, .int (nI (a + q)))]) hx hb dX3_suffer_78 hl (k := 5) rfl (qn_inc (othN f t (amt t m2 kd pa v) a q)) (by decide) rfl (fun ls hl => ?_)
              refine lv_aload_n hx hb dX3_suffer_81 rfl (lv_at hl 2 rfl) ?_
              refine qh_get hx hb hH f_15 (by omega) ((hF i (by omega) (by omega)).trans b_i) rfl dX3_suffer_82 ?_
              refine lv_iload hx hb dX3_suffer_85 (lv_at hl 6 rfl) ?_
              refine lv_lload hx hb dX3_suffer_87 (lv_at hl 1 rfl) ?_
              refine qh_last hx hb hK hH (by omega) h_j (j := a + q) (rfl) (by omega) (by omega) dX3_suffer_89 (fun E_7 H locs h_j hfr hH _ => ?_)
              have h_j : E_7 j = qa_J G 16 (actF f t (amt t m2 kd pa v) a (q + 1)) := h_j.trans (congrArg (qa_J G 16) (actF_s ..))
              have h_k := (hfr k (by omega)).trans h_k
              have hF : ∀ x9, x9 ≠ j → x9 ≠ k → E_7 x9 = E x9 := fun x9 a0 a1 => (hfr x9 a0).trans (hF x9 a0 a1)
              refine lv_aload_n hx hb dX3_suffer_90 rfl (lv_at hl 2 rfl) ?_
              refine qh_get hx hb hH f_19 (by omega) ((hF i (by omega) (by omega)).trans b_i) rfl dX3_suffer_91 ?_
              refine lv_iload hx hb dX3_suffer_94 (lv_at hl 6 rfl) ?_
              refine lv_aload_n hx hb dX3_suffer_96 rfl (lv_at hl 2 rfl) ?_
              refine qh_get hx hb hH f_19 (by omega) ((hF i (by omega) (by omega)).trans b_i) rfl dX3_suffer_97 ?_
              refine lv_iload hx hb dX3_suffer_100 (lv_at hl 6 rfl) ?_
              refine qh_lald hx hb hK hH (by omega) h_k (j := a + q) (rfl) (by omega) (by omega) dX3_suffer_102 ?_
              refine qh_topl (y := g (a + q)) (hisF_at ..) ?_
              refine lv_lload hx hb dX3_suffer_103 (lv_at hl 1 rfl) ?_
              refine va_mmax_long hx hb (hml.trans hl.1.symm) hown j_54 js_54 ji_Math jc_54 (by rw [hRf]; exact Nat.le_of_ble_eq_true rfl) (by rw [hRl]; exact Nat.le_of_ble_eq_true rfl) (Nat.zero_le _) (Nat.zero_le _) dX3_suffer_105 ?_
              refine qh_topl (y := mx (g (a + q)) (chg (f (a + q)) t (amt t m2 kd pa v))) (mx_cls _ _) ?_
              refine qh_last hx hb hK hH (by omega) h_k (j := a + q) (rfl) (by omega) (by omega) dX3_suffer_108 (fun E_8 H locs h_k hfr hH _ => ?_)
              have h_k : E_8 k = qa_J G 16 (hisF g f t (amt t m2 kd pa v) a (q + 1)) := h_k.trans (congrArg (qa_J G 16) (hisF_s ..))
              have h_j := (hfr j (by omega)).trans h_j
              have hF : ∀ x9, x9 ≠ j → x9 ≠ k → E_8 x9 = E x9 := fun x9 a0 a1 => (hfr x9 a1).trans (hF x9 a0 a1)
              refine lv_iinc (v := nI ((a + q) + 1)) (lv' := [(6, .int (nI ((a + q) + 1))), (5, .int (nI ((othN f t (amt t m2 kd pa v) a q) + 1))), (7, .long (chg (f (a + q)) t (amt t m2 kd pa v))), (0, .ref (z + i)), (1, .ref (z + ia)), (2, .ref (z + i2)), (3, .long (amt t m2 kd pa v))]) hx hb dX3_suffer_109 hl (k := 6) rfl (qn_inc (a + q)) (by decide) rfl (fun ls hl => ?_)
              refine lv_goto (tgt := 39) hx hb dX3_suffer_112 (by decide) ?_
              first | rw [← othN_y c_75] at hl | rw [← othN_n c_75] at hl
              exact ih (q + 1) (by omega) (by omega) E_8 h_j h_k (fun x9 a0 a1 => hF x9 a0 a1) _ _ hH ls (lv_sub hl [3, 4, 5, 6, 1, 0] rfl)
      exact L_39 (b + 1 - a + 1) 0 (Nat.zero_le _) (by omega) E (b_j.trans (congrArg (qa_J G 16) (actF_0 ..).symm)) (b_k.trans (congrArg (qa_J G 16) (hisF_0 ..).symm)) (fun x9 a0 a1 => rfl) _ _ hH ls (lv_sub hl [3, 4, 5, 2, 1, 0] rfl)
    · have c_19 := bI_eq.mp c_19
      exact absurd (nI_has (by omega) (by omega)) c_19
end
section
/-! spans: what stands at a number of a span, of c cells -/
def spG (c : Nat) : Nat → Nat → Option (Nat × Nat)
  | 0, _ => none
  | fu + 1, s => if s = 0 then none else if s = 1 then (if c = 0 then none else some (0, c - 1)) else match spG c fu (s / 2) with
    | none => none
    | some (a, b) => if b ≤ a then none else if s % 2 = 0 then some (a, (a + b) / 2) else some ((a + b) / 2 + 1, b)
def spN (c s : Nat) : Option (Nat × Nat) := spG c 32 s
def spF (c s : Nat) : Int32 := match spN c s with
  | some (a, _) => nI a
  | none => 0
def spL (c s : Nat) : Int32 := match spN c s with
  | some (_, b) => nI b
  | none => -1
def spSt (s : Nat) (w : Option (Nat × Nat)) : Option (Nat × Nat) := match w with
  | none => none
  | some (a, b) => if b ≤ a then none else if s % 2 = 0 then some (a, (a + b) / 2) else some ((a + b) / 2 + 1, b)
def spOk (w : Option (Nat × Nat)) : Bool := match w with
  | none => true
  | some (a, b) => decide (a ≤ b ∧ b < 16)
theorem sp_dec : (List.range 17).all (fun c => (List.range 32).all (fun s => spOk (spN c s) && (decide (s < 2) || decide (spN c s = spSt s (spN c (s / 2)))))) = true := by decide +kernel
theorem sp_get {c s : Nat} (hc : c ≤ 16) (hs : s < 32) : spOk (spN c s) = true ∧ (2 ≤ s → spN c s = spSt s (spN c (s / 2))) := by
  have h1 := List.all_eq_true.mp sp_dec c (List.mem_range.mpr (by omega))
  have h2 := List.all_eq_true.mp h1 s (List.mem_range.mpr hs)
  simp only [Bool.and_eq_true, Bool.or_eq_true, decide_eq_true_eq] at h2
  exact ⟨h2.1, fun h => h2.2.resolve_left (by omega)⟩
theorem sp_lt {c s : Nat} (hc : c ≤ 16) (hs : s < 32) (h : spF c s < spL c s) : ∃ a b, spN c s = some (a, b) ∧ a < b ∧ b < 16 := by
  have h1 := (sp_get hc hs).1
  unfold spF spL at h
  cases hw : spN c s with
  | none => rw [hw] at h; exact absurd h (by decide)
  | some q =>
    obtain ⟨a, b⟩ := q
    rw [hw] at h h1
    have h2 : a ≤ b ∧ b < 16 := of_decide_eq_true h1
    have h3 : nI a < nI b := h
    exact ⟨a, b, rfl, (nI_ltI (by omega) (by omega)).mp h3, h2.2⟩
theorem sp_non {c s : Nat} (hc : c ≤ 16) (h2 : 2 ≤ s) (hs : s < 32) (h : ¬ spF c (s / 2) < spL c (s / 2)) : spF c s = 0 ∧ spL c s = -1 := by
  have h1 := (sp_get hc (show s / 2 < 32 by omega)).1
  have h3 := (sp_get hc hs).2 h2
  have h4 : spN c s = none := by
    rw [h3]
    unfold spF spL at h
    cases hw : spN c (s / 2) with
    | none => rfl
    | some q =>
      obtain ⟨a, b⟩ := q
      rw [hw] at h h1
      have h5 : a ≤ b ∧ b < 16 := of_decide_eq_true h1
      have h6 : ¬ nI a < nI b := h
      have h7 : b ≤ a := by
        rcases Nat.lt_or_ge a b with w | w
        · exact absurd (nI_lt w (by omega)) h6
        · exact w
      show (if b ≤ a then none else _) = none
      rw [if_pos h7]
  exact ⟨by rw [spF, h4], by rw [spL, h4]⟩
theorem sp_even {c s a b : Nat} (hc : c ≤ 16) (h2 : 2 ≤ s) (hs : s < 32) (hw : spN c (s / 2) = some (a, b)) (hab : a < b) (hp : s % 2 = 0) : spF c s = nI a ∧ spL c s = nI ((a + b) / 2) := by
  have h3 := (sp_get hc hs).2 h2
  rw [hw] at h3
  have h4 : spN c s = some (a, (a + b) / 2) := by
    rw [h3]
    show (if b ≤ a then none else if s % 2 = 0 then some (a, (a + b) / 2) else _) = _
    rw [if_neg (by omega), if_pos hp]
  exact ⟨by rw [spF, h4], by rw [spL, h4]⟩
theorem sp_odd {c s a b : Nat} (hc : c ≤ 16) (h2 : 2 ≤ s) (hs : s < 32) (hw : spN c (s / 2) = some (a, b)) (hab : a < b) (hp : ¬ s % 2 = 0) : spF c s = nI ((a + b) / 2 + 1) ∧ spL c s = nI b := by
  have h3 := (sp_get hc hs).2 h2
  rw [hw] at h3
  have h4 : spN c s = some ((a + b) / 2 + 1, b) := by
    rw [h3]
    show (if b ≤ a then none else if s % 2 = 0 then _ else some ((a + b) / 2 + 1, b)) = _
    rw [if_neg (by omega), if_neg hp]
  exact ⟨by rw [spF, h4], by rw [spL, h4]⟩
/-- whether there is a span of that number -/
abbrev spH (c : Nat) (s : Int32) : Prop := ¬ s < 1 ∧ s < 32 ∧ (spN c s.toNatClampNeg).isSome = true
theorem sp_le {c t : Nat} (hc : c ≤ 16) (ht : t < 32) : spF c t ≤ spL c t ↔ (spN c t).isSome = true := by
  have h1 := (sp_get hc ht).1
  unfold spF spL
  cases hw : spN c t with
  | none => exact ⟨fun h => absurd h (by decide), fun h => by cases h⟩
  | some q =>
    obtain ⟨a, b⟩ := q
    rw [hw] at h1
    have h2 : a ≤ b ∧ b < 16 := of_decide_eq_true h1
    exact ⟨fun _ => rfl, fun _ => nI_le h2.1 (by omega)⟩
theorem spH_no {c t : Nat} {s : Int32} (hc : c ≤ 16) (ht : t < 32) (et : s = nI t) (h : spL c t < spF c t) : ¬ spH c s := by
  intro w
  have h2 := w.2.2
  rw [et, nI_clamp (by omega), ← sp_le hc ht] at h2
  exact Int32.not_lt.mpr h2 h
theorem spH_yes {c t : Nat} {s : Int32} (hc : c ≤ 16) (ht : t < 32) (et : s = nI t) (h1 : ¬ s < 1) (h2 : s < 32) (h : ¬ spL c t < spF c t) : spH c s := by
  refine ⟨h1, h2, ?_⟩
  rw [et, nI_clamp (by omega), ← sp_le hc ht]
  exact Int32.not_lt.mp h
theorem spH_nI {c t : Nat} (ht : t < 32) (h : spH c (nI t)) : (spN c t).isSome = true := by
  have h2 := h.2.2
  rw [nI_clamp (by omega)] at h2
  exact h2
theorem spH_nI_no {c t : Nat} (h1 : 1 ≤ t) (ht : t < 32) (h : ¬ spH c (nI t)) : (spN c t).isSome = false := by
  cases hw : (spN c t).isSome with
  | false => rfl
  | true => exact absurd ⟨nI_nlt (a := t) (b := 1) h1 (by omega), nI_lt (b := 32) ht (by decide), by rw [nI_clamp (by omega)]; exact hw⟩ h
theorem cnt_y {q : Nat → Bool} {a n : Nat} (h : q (a + n) = true) : cntR q a (n + 1) = cntR q a n + 1 := by rw [cntR_succ, if_pos h]
theorem cnt_n {q : Nat → Bool} {a n : Nat} (h : q (a + n) = false) : cntR q a (n + 1) = cntR q a n := by
  rw [cntR_succ, if_neg (by rw [h]; decide)]
  rfl
theorem cnt0_y {q : Nat → Bool} {n : Nat} (h : q n = true) : cntR q 0 (n + 1) = cntR q 0 n + 1 := cnt_y (by rw [Nat.zero_add]; exact h)
theorem cnt0_n {q : Nat → Bool} {n : Nat} (h : q n = false) : cntR q 0 (n + 1) = cntR q 0 n := cnt_n (by rw [Nat.zero_add]; exact h)
/-- below s the new ones, the old ones from s on -/
def hvF (g g0 : Nat → Int32) (s : Nat) : Nat → Int32 := fun t => if t < s then g t else g0 t
theorem hvF_lt {g g0 : Nat → Int32} {s t : Nat} (h : t < s) : hvF g g0 s t = g t := if_pos h
theorem hvF_s (g g0 : Nat → Int32) (s : Nat) : upd (hvF g g0 s) s (g s) = hvF g g0 (s + 1) := by
  funext t
  simp only [upd, hvF]
  by_cases h : t = s
  · subst h
    rw [if_pos rfl, if_pos (by omega)]
  · rw [if_neg h]
    by_cases h2 : t < s
    · rw [if_pos h2, if_pos (by omega)]
    · rw [if_neg h2, if_neg (by omega)]
theorem sp_0 (c : Nat) : spN c 0 = none := rfl
theorem sp_1 {c : Nat} (h : 1 ≤ c) : spN c 1 = some (0, c - 1) := by
  show (if c = 0 then none else some (0, c - 1)) = _
  rw [if_neg (by omega)]
theorem spF_1 (c : Nat) : spF c 1 = 0 := by
  rcases Nat.eq_zero_or_pos c with h | h
  · subst h; rfl
  · rw [spF, sp_1 h]; rfl
theorem hvF_2 {c c0 : Nat} (h : 1 ≤ c) : spF c0 = hvF (spF c) (spF c0) 2 := by
  funext t
  unfold hvF
  split
  · rcases (show t = 0 ∨ t = 1 by omega) with e | e
    · subst e; rfl
    · subst e; rw [spF_1, spF_1]
  · rfl
theorem hvL_2 {c c0 : Nat} (h : 1 ≤ c) : upd (spL c0) 1 (nI (c - 1)) = hvF (spL c) (spL c0) 2 := by
  funext t
  simp only [upd, hvF]
  by_cases h1 : t = 1
  · subst h1
    rw [if_pos rfl, if_pos (by decide), spL, sp_1 h]
  · rw [if_neg h1]
    split
    · have e : t = 0 := by omega
      subst e; rfl
    · rfl
/-! rows of references, readings -/
def rfA (z ab : Nat) : Nat → Option Nat := fun t => some (z + (ab + t))
def rdC (cn : Nat → Nat) : Nat → Int32 := fun q => nI (cn q)
def upN (f : Nat → Nat) (k x : Nat) : Nat → Nat := fun j => if j = k then x else f j
theorem rdC_up (cn : Nat → Nat) (n a : Nat) : upd (rdC cn) n (nI a) = rdC (upN cn n a) := by
  funext j
  simp only [upd, rdC, upN]
  split <;> rfl
def allR (q : Nat → Bool) : Nat → Bool
  | 0 => true
  | n + 1 => allR q n && q n
theorem allR_at {q : Nat → Bool} : ∀ {n k : Nat}, allR q n = true → k < n → q k = true
  | 0, k, _, h => absurd h (Nat.not_lt_zero k)
  | n + 1, k, h, hk => by
    simp only [allR, Bool.and_eq_true] at h
    rcases Nat.lt_or_ge k n with w | w
    · exact allR_at h.1 w
    · have e : k = n := by omega
      subst e
      exact h.2
set_option maxHeartbeats 4000000 in
set_option maxRecDepth 100000 in
theorem c_X6_has (l : Launch) (G : qh_G) (z M : Nat) (E : Nat → va_E) (i : Nat) (j : Nat) (k : Nat) (c : Nat) (s : Int32) (hi : i < M ∧ j < M ∧ k < M) (hc : c ≤ 16) (b_i : E i = .inr (6, [.ref (z + j), .ref (z + k)])) (b_j : E j = qa_I G 32 (spF c)) (b_k : E k = qa_I G 32 (spL c)) : Met l yX6_has wsX6_has (qh_R 0) (qh_Pre G z M E [.ref (z + i), .int s]) (qh_Q G z M (qh_i (fun r E' => E = E' ∧ r = bI (spH c s)))) 0 0 (fun q => z ≤ q) := by
  refine qh_metZ (cc := cX6_has) (maxL := 2) (by decide) rfl (Nat.le_of_ble_eq_true rfl) ?_
  intro pZ eZ sZ mZ aZ bZ tZ cZ RR QQ ls hx hb hml hown hts hRf hRl hH hK hl hret
  have hown : sZ.vm.findClass RX6 = some mZ.cls := hown
  have hl : lv_has ls 2 [(0, .ref (z + i)), (1, .int s)] := hl
  have in_X6 : ∀ w ∈ wsX60, w ∈ wsX6_has := fun w h => List.mem_cons_of_mem _ (List.mem_append_right _ h)
  have f_9 : qh_F G sZ mZ aZ 9 6 0 := qh_F.of hts in_X6 hown hK rfl 0 (by decide) (by decide +kernel)
  have f_15 : qh_F G sZ mZ aZ 15 6 1 := qh_F.of hts in_X6 hown hK rfl 1 (by decide) (by decide +kernel)
  refine lv_iload_n hx hb dX6_has_0 rfl (lv_at hl 1 rfl) ?_
  refine lv_iconst (v := 1) hx hb dX6_has_1 (by decide) ?_
  refine lv_icmp_lt (tgt := 30) hx hb dX6_has_2 (by decide) (fun c_2 => ?_) (fun c_2 => ?_)
  · refine lv_iconst (v := 0) hx hb dX6_has_30 (by decide) ?_
    exact hret dX6_has_31 hH (Or.inl rfl) (⟨rfl, bI_0 (fun w => w.1 c_2)⟩)
  · refine lv_iload_n hx hb dX6_has_5 rfl (lv_at hl 1 rfl) ?_
    refine lv_bipush (v := 32) hx hb dX6_has_6 (by decide) ?_
    refine lv_icmp_ge (tgt := 30) hx hb dX6_has_8 (by decide) (fun c_8 => ?_) (fun c_8 => ?_)
    · refine lv_iconst (v := 0) hx hb dX6_has_30 (by decide) ?_
      exact hret dX6_has_31 hH (Or.inl rfl) (⟨rfl, bI_0 (fun w => Int32.not_lt.mpr c_8 w.2.1)⟩)
    · obtain ⟨t, ht, et⟩ := nI_of_in (k := s) (c := 32) (by decide) ⟨fun w => c_2 (Int32.lt_trans w (by decide)), Int32.not_le.mp c_8⟩
      refine lv_aload_n hx hb dX6_has_11 rfl (lv_at hl 0 rfl) ?_
      refine qh_get hx hb hH f_9 (by omega) b_i rfl dX6_has_12 ?_
      refine lv_iload_n hx hb dX6_has_15 rfl (lv_at hl 1 rfl) ?_
      refine qh_iald hx hb hK hH (by omega) b_j (j := t) (et) (ht) (by omega) dX6_has_16 ?_
      refine lv_aload_n hx hb dX6_has_17 rfl (lv_at hl 0 rfl) ?_
      refine qh_get hx hb hH f_15 (by omega) b_i rfl dX6_has_18 ?_
      refine lv_iload_n hx hb dX6_has_21 rfl (lv_at hl 1 rfl) ?_
      refine qh_iald hx hb hK hH (by omega) b_k (j := t) (et) (ht) (by omega) dX6_has_22 ?_
      refine lv_icmp_gt (tgt := 30) hx hb dX6_has_23 (by decide) (fun c_23 => ?_) (fun c_23 => ?_)
      · refine lv_iconst (v := 0) hx hb dX6_has_30 (by decide) ?_
        exact hret dX6_has_31 hH (Or.inl rfl) (⟨rfl, bI_0 (spH_no hc ht et c_23)⟩)
      · refine lv_iconst (v := 1) hx hb dX6_has_26 (by decide) ?_
        refine lv_goto (tgt := 31) hx hb dX6_has_27 (by decide) ?_
        exact hret dX6_has_31 hH (Or.inr rfl) (⟨rfl, bI_1 (spH_yes hc ht et c_2 (Int32.not_le.mp c_8) c_23)⟩)

set_option maxHeartbeats 4000000 in
set_option maxRecDepth 100000 in
theorem c_X6_count (l : Launch) (G : qh_G) (z M : Nat) (E : Nat → va_E) (i : Nat) (j : Nat) (k : Nat) (c : Nat) (hi : i < M ∧ j < M ∧ k < M) (hc : c ≤ 16) (b_i : E i = .inr (6, [.ref (z + j), .ref (z + k)])) (b_j : E j = qa_I G 32 (spF c)) (b_k : E k = qa_I G 32 (spL c)) : Met l yX6_count wsX6_count (qh_R 1) (qh_Pre G z M E [.ref (z + i)]) (qh_Q G z M (qh_i (fun r E' => E = E' ∧ r = nI (cntR (fun s => (spN c s).isSome) 1 31)))) 0 0 (fun q => z ≤ q) := by
  refine qh_metI (cc := cX6_count) (maxL := 3) (by decide) rfl (Nat.le_of_ble_eq_true rfl) ?_
  intro pZ eZ sZ mZ aZ bZ tZ cZ RR QQ ls hx hb hml hown hts hRf hRl hH hK hl hret
  have hown : sZ.vm.findClass RX6 = some mZ.cls := hown
  have hl : lv_has ls 3 [(0, .ref (z + i))] := hl
  refine lv_iconst (v := 0) hx hb dX6_count_0 (by decide) ?_
  refine lv_istore_n (lv' := [(1, .int 0), (0, .ref (z + i))]) hx hb dX6_count_1 rfl hl (by decide) rfl (fun ls hl => ?_)
  refine lv_iconst (v := 1) hx hb dX6_count_2 (by decide) ?_
  refine lv_istore_n (lv' := [(2, .int 1), (1, .int 0), (0, .ref (z + i))]) hx hb dX6_count_3 rfl hl (by decide) rfl (fun ls hl => ?_)
  have L_4 : ∀ fu : Nat, ∀ q : Nat, (q ≤ 31) → (31 - q < fu) → ∀ (H : Heap) (locs : List Loc), qh_H G z M E sZ.heap H locs → ∀ ls : Array Slot, lv_has ls 3 [(0, .ref (z + i)), (1, .int (nI (cntR (fun s => (spN c s).isSome) 1 q))), (2, .int (nI (1 + q)))] → W pZ l eZ RR sZ mZ aZ bZ tZ cZ H locs 0 0 QQ (F0 mZ 4 ls []) := by
    intro fu
    induction fu with
    | zero =>
      intro q hq hfuel
      exact absurd hfuel (by omega)
    | succ fu ih =>
      intro q hq hfuel H locs hH ls hl
      refine lv_iload_n hx hb dX6_count_4 rfl (lv_at hl 2 rfl) ?_
      refine lv_bipush (v := 32) hx hb dX6_count_5 (by decide) ?_
      refine lv_icmp_ge (tgt := 27) hx hb dX6_count_7 (by decide) (fun c_7 => ?_) (fun c_7 => ?_)
      · have hk : q = 31 := by
          rcases Nat.lt_or_ge (1 + q) 32 with w | w
          · exact absurd c_7 (nI_ge w (by decide))
          · omega
        subst hk
        refine lv_iload_n hx hb dX6_count_27 rfl (lv_at hl 1 rfl) ?_
        exact hret dX6_count_28 hH (⟨rfl, rfl⟩)
      · have hk : 1 + q < 32 := by
          rcases Nat.lt_or_ge (1 + q) 32 with w | w
          · exact w
          · exact absurd (nI_le w (by omega)) c_7
        refine lv_aload_n hx hb dX6_count_10 rfl (lv_at hl 0 rfl) ?_
        refine lv_iload_n hx hb dX6_count_11 rfl (lv_at hl 2 rfl) ?_
        refine qh_runV (As := [.int (nI (1 + q))]) (rest := []) (C := RX6) ⟨hx, hb, hml, hown, hts⟩ hK hH (c_X6_has l G z M E i j k _ (nI (1 + q)) (by omega) (by omega) b_i b_j b_k) (cwV 1 hts gX6_count_X6_has rfl rfl rfl (by decide +kernel) (by rw [hRf, hRl]; exact ⟨Nat.le_of_ble_eq_true rfl, Nat.le_of_ble_eq_true rfl⟩)) (by omega) b_i rfl rfl hl.1 rfl (Nat.le_of_ble_eq_true rfl) dX6_count_12 ⟨Nat.zero_le _, Nat.zero_le _⟩ (qh_kki fun r_12 E_1 H locs hpost hH => ?_)
        obtain ⟨rfl, rfl⟩ := hpost
        refine lv_if_eq (tgt := 21) hx hb dX6_count_15 (by decide) (fun c_15 => ?_) (fun c_15 => ?_)
        · have c_15 := bI_eq.mp c_15
          refine lv_iinc (v := nI ((1 + q) + 1)) (lv' := [(2, .int (nI ((1 + q) + 1))), (0, .ref (z + i)), (1, .int (nI (cntR (fun s => (spN c s).isSome) 1 q)))]) hx hb dX6_count_21 hl (k := 2) rfl (qn_inc (1 + q)) (by decide) rfl (fun ls hl => ?_)
          refine lv_goto (tgt := 4) hx hb dX6_count_24 (by decide) ?_
          first | rw [← cnt_y (q := fun s => (spN c s).isSome) (spH_nI (by omega) c_15)] at hl | rw [← cnt_n (q := fun s => (spN c s).isSome) (spH_nI_no (by omega) (by omega) c_15)] at hl
          exact ih (q + 1) (by omega) (by omega) _ _ hH ls (lv_sub hl [1, 2, 0] rfl)
        · have c_15 := bI_ne.mp c_15
          refine lv_iinc (v := nI ((cntR (fun s => (spN c s).isSome) 1 q) + 1)) (lv' := [(1, .int (nI ((cntR (fun s => (spN c s).isSome) 1 q) + 1))), (0, .ref (z + i)), (2, .int (nI (1 + q)))]) hx hb dX6_count_18 hl (k := 1) rfl (qn_inc (cntR (fun s => (spN c s).isSome) 1 q)) (by decide) rfl (fun ls hl => ?_)
          refine lv_iinc (v := nI ((1 + q) + 1)) (lv' := [(2, .int (nI ((1 + q) + 1))), (1, .int (nI ((cntR (fun s => (spN c s).isSome) 1 q) + 1))), (0, .ref (z + i))]) hx hb dX6_count_21 hl (k := 2) rfl (qn_inc (1 + q)) (by decide) rfl (fun ls hl => ?_)
          refine lv_goto (tgt := 4) hx hb dX6_count_24 (by decide) ?_
          first | rw [← cnt_y (q := fun s => (spN c s).isSome) (spH_nI (by omega) c_15)] at hl | rw [← cnt_n (q := fun s => (spN c s).isSome) (spH_nI_no (by omega) (by omega) c_15)] at hl
          exact ih (q + 1) (by omega) (by omega) _ _ hH ls (lv_sub hl [2, 1, 0] rfl)
  exact L_4 32 0 (Nat.zero_le _) (by omega) _ _ hH ls (lv_sub hl [2, 1, 0] rfl)

set_option maxHeartbeats 4000000 in
set_option maxRecDepth 100000 in
theorem c_X6_halve (l : Launch) (G : qh_G) (z M : Nat) (E : Nat → va_E) (i : Nat) (j : Nat) (k : Nat) (c0 : Nat) (c : Nat) (hi : i < M ∧ j < M ∧ k < M) (hd : i ≠ j ∧ i ≠ k ∧ j ≠ k) (hc : 1 ≤ c ∧ c ≤ 16) (b_i : E i = .inr (6, [.ref (z + j), .ref (z + k)])) (b_j : E j = qa_I G 32 (spF c0)) (b_k : E k = qa_I G 32 (spL c0)) : Met l yX6_halve wsX6_halve (qh_R 0) (qh_Pre G z M E [.ref (z + i), .int (nI c)]) (qh_Q G z M (qh_v (fun E' => E' j = qa_I G 32 (spF c) ∧ E' k = qa_I G 32 (spL c) ∧ ∀ x9, x9 ≠ j → x9 ≠ k → E' x9 = E x9))) 0 0 (fun q => z ≤ q) := by
  refine qh_metV (cc := cX6_halve) (maxL := 6) (by decide) rfl (Nat.le_of_ble_eq_true rfl) ?_
  intro pZ eZ sZ mZ aZ bZ tZ cZ RR QQ ls hx hb hml hown hts hRf hRl hH hK hl hret
  have hown : sZ.vm.findClass RX6 = some mZ.cls := hown
  have hl : lv_has ls 6 [(0, .ref (z + i)), (1, .int (nI c))] := hl
  have in_X6 : ∀ w ∈ wsX60, w ∈ wsX6_halve := fun w h => List.mem_cons_of_mem _ (List.mem_append_right _ h)
  have f_15 : qh_F G sZ mZ aZ 15 6 1 := qh_F.of hts in_X6 hown hK rfl 1 (by decide) (by decide +kernel)
  have f_9 : qh_F G sZ mZ aZ 9 6 0 := qh_F.of hts in_X6 hown hK rfl 0 (by decide) (by decide +kernel)
  refine lv_aload_n hx hb dX6_halve_0 rfl (lv_at hl 0 rfl) ?_
  refine qh_get hx hb hH f_15 (by omega) b_i rfl dX6_halve_1 ?_
  refine lv_iconst (v := 1) hx hb dX6_halve_4 (by decide) ?_
  refine lv_iload_n hx hb dX6_halve_5 rfl (lv_at hl 1 rfl) ?_
  refine lv_iconst (v := 1) hx hb dX6_halve_6 (by decide) ?_
  refine lv_isub hx hb dX6_halve_7 ?_
  refine qh_topi (y := nI (c - 1)) (pk_sub (b := 1) hc.1) ?_
  refine qh_iast hx hb hK hH (by omega) b_k (j := 1) (rfl) (by decide) (by omega) dX6_halve_8 (fun E_1 H locs h_k hfr hH _ => ?_)
  have h_k : E_1 k = qa_I G 32 (hvF (spL c) (spL c0) 2) := h_k.trans (congrArg (qa_I G 32) (hvL_2 hc.1))
  have hF : ∀ x9, x9 ≠ k → E_1 x9 = E x9 := fun x9 a0 => hfr x9 a0
  refine lv_iconst (v := 2) hx hb dX6_halve_9 (by decide) ?_
  refine lv_istore_n (lv' := [(2, .int 2), (0, .ref (z + i)), (1, .int (nI c))]) hx hb dX6_halve_10 rfl hl (by decide) rfl (fun ls hl => ?_)
  have L_11 : ∀ fu : Nat, ∀ t : Nat, (2 ≤ t ∧ t ≤ 32) → (32 - t < fu) → ∀ Ek : Nat → va_E, Ek j = qa_I G 32 (hvF (spF c) (spF c0) t) → Ek k = qa_I G 32 (hvF (spL c) (spL c0) t) → (∀ x9, x9 ≠ j → x9 ≠ k → Ek x9 = E x9) → ∀ (H : Heap) (locs : List Loc), qh_H G z M Ek sZ.heap H locs → ∀ ls : Array Slot, lv_has ls 6 [(0, .ref (z + i)), (2, .int (nI t))] → W pZ l eZ RR sZ mZ aZ bZ tZ cZ H locs 0 0 QQ (F0 mZ 11 ls []) := by
    intro fu
    induction fu with
    | zero =>
      intro t ht hfuel
      exact absurd hfuel (by omega)
    | succ fu ih =>
      intro t ht hfuel Ek h_j h_k hF H locs hH ls hl
      refine lv_iload_n hx hb dX6_halve_11 rfl (lv_at hl 1 rfl) ?_
      refine lv_bipush (v := 32) hx hb dX6_halve_12 (by decide) ?_
      refine lv_icmp_ge (tgt := 135) hx hb dX6_halve_14 (by decide) (fun c_14 => ?_) (fun c_14 => ?_)
      · have hk : t = 32 := by
          rcases Nat.lt_or_ge t 32 with w | w
          · exact absurd c_14 (nI_ge w (by decide))
          · omega
        subst hk
        obtain ⟨E2, h_j, hfr, hH⟩ := qh_renI (g := spF c) hH h_j (fun _ _ => rfl) (fun _ ht => hvF_lt ht)
        have h_k := (hfr k (by omega)).trans h_k
        have hF : ∀ x9, x9 ≠ j → x9 ≠ k → E2 x9 = E x9 := fun x9 a0 a1 => (hfr x9 a0).trans (hF x9 a0 a1)
        obtain ⟨E3, h_k, hfr, hH⟩ := qh_renI (g := spL c) hH h_k (fun _ _ => rfl) (fun _ ht => hvF_lt ht)
        exact hret dX6_halve_135 hH (⟨(hfr j (by omega)).trans h_j, h_k, fun x9 a0 a1 => (hfr x9 a1).trans (hF x9 a0 a1)⟩)
      · have hk : t < 32 := by
          rcases Nat.lt_or_ge t 32 with w | w
          · exact w
          · exact absurd (nI_le w (by omega)) c_14
        refine lv_iload_n hx hb dX6_halve_17 rfl (lv_at hl 1 rfl) ?_
        refine lv_iconst (v := 2) hx hb dX6_halve_18 (by decide) ?_
        refine lv_idiv hx hb dX6_halve_19 (by decide) ?_
        refine qh_topi (y := nI (t / 2)) (pk_div (d := 2) (by omega) (by decide) (by decide)) ?_
        refine lv_istore_n (lv' := [(3, .int (nI (t / 2))), (0, .ref (z + i)), (2, .int (nI t))]) hx hb dX6_halve_20 rfl hl (by decide) rfl (fun ls hl => ?_)
        refine lv_aload_n hx hb dX6_halve_21 rfl (lv_at hl 1 rfl) ?_
        refine qh_get hx hb hH f_9 (by omega) ((hF i (by omega) (by omega)).trans b_i) rfl dX6_halve_22 ?_
        refine lv_iload_n hx hb dX6_halve_25 rfl (lv_at hl 0 rfl) ?_
        refine qh_iald hx hb hK hH (by omega) h_j (j := t / 2) (rfl) (by omega) (by omega) dX6_halve_26 ?_
        refine qh_topi (y := spF c (t / 2)) (hvF_lt (by omega)) ?_
        refine lv_aload_n hx hb dX6_halve_27 rfl (lv_at hl 1 rfl) ?_
        refine qh_get hx hb hH f_15 (by omega) ((hF i (by omega) (by omega)).trans b_i) rfl dX6_halve_28 ?_
        refine lv_iload_n hx hb dX6_halve_31 rfl (lv_at hl 0 rfl) ?_
        refine qh_iald hx hb hK hH (by omega) h_k (j := t / 2) (rfl) (by omega) (by omega) dX6_halve_32 ?_
        refine qh_topi (y := spL c (t / 2)) (hvF_lt (by omega)) ?_
        refine lv_icmp_lt (tgt := 53) hx hb dX6_halve_33 (by decide) (fun c_33 => ?_) (fun c_33 => ?_)
        · obtain ⟨a, b, hw, hab, hb16⟩ := sp_lt hc.2 (show t / 2 < 32 by omega) c_33
          have hwF : spF c (t / 2) = nI a := by rw [spF, hw]
          have hwL : spL c (t / 2) = nI b := by rw [spL, hw]
          refine lv_aload_n hx hb dX6_halve_53 rfl (lv_at hl 1 rfl) ?_
          refine qh_get hx hb hH f_9 (by omega) ((hF i (by omega) (by omega)).trans b_i) rfl dX6_halve_54 ?_
          refine lv_iload_n hx hb dX6_halve_57 rfl (lv_at hl 0 rfl) ?_
          refine qh_iald hx hb hK hH (by omega) h_j (j := t / 2) (rfl) (by omega) (by omega) dX6_halve_58 ?_
          refine qh_topi (y := nI a) (hwF ▸ hvF_lt (by omega)) ?_
          refine lv_aload_n hx hb dX6_halve_59 rfl (lv_at hl 1 rfl) ?_
          refine qh_get hx hb hH f_15 (by omega) ((hF i (by omega) (by omega)).trans b_i) rfl dX6_halve_60 ?_
          refine lv_iload_n hx hb dX6_halve_63 rfl (lv_at hl 0 rfl) ?_
          refine qh_iald hx hb hK hH (by omega) h_k (j := t / 2) (rfl) (by omega) (by omega) dX6_halve_64 ?_
          refine qh_topi (y := nI b) (hwL ▸ hvF_lt (by omega)) ?_
          refine lv_iadd hx hb dX6_halve_65 ?_
          refine qh_topi (y := nI (a + b)) (nI_add a b) ?_
          refine lv_iconst (v := 2) hx hb dX6_halve_66 (by decide) ?_
          refine lv_idiv hx hb dX6_halve_67 (by decide) ?_
          refine qh_topi (y := nI ((a + b) / 2)) (pk_div (d := 2) (by omega) (by decide) (by decide)) ?_
          refine lv_istore (lv' := [(4, .int (nI ((a + b) / 2))), (3, .int (nI (t / 2))), (0, .ref (z + i)), (2, .int (nI t))]) hx hb dX6_halve_68 hl (by decide) rfl (fun ls hl => ?_)
          refine lv_iload_n hx hb dX6_halve_70 rfl (lv_at hl 3 rfl) ?_
          refine lv_iconst (v := 2) hx hb dX6_halve_71 (by decide) ?_
          refine lv_irem hx hb dX6_halve_72 (by decide) ?_
          refine qh_topi (y := nI (t % 2)) (pk_rem (d := 2) (by omega) (by decide) (by decide)) ?_
          refine lv_if_ne (tgt := 80) hx hb dX6_halve_73 (by decide) (fun c_73 => ?_) (fun c_73 => ?_)
          · have hpar : ¬ t % 2 = 0 := fun w => c_73 (by rw [w]; rfl)
            obtain ⟨hsF, hsL⟩ := sp_odd hc.2 (by omega) (by omega) hw hab hpar
            refine lv_iconst (v := 0) hx hb dX6_halve_80 (by decide) ?_
            refine lv_istore (lv' := [(5, .int 0), (4, .int (nI ((a + b) / 2))), (3, .int (nI (t / 2))), (0, .ref (z + i)), (2, .int (nI t))]) hx hb dX6_halve_81 hl (by decide) rfl (fun ls hl => ?_)
            refine lv_aload_n hx hb dX6_halve_83 rfl (lv_at hl 3 rfl) ?_
            refine qh_get hx hb hH f_9 (by omega) ((hF i (by omega) (by omega)).trans b_i) rfl dX6_halve_84 ?_
            refine lv_iload_n hx hb dX6_halve_87 rfl (lv_at hl 4 rfl) ?_
            refine lv_iload hx hb dX6_halve_88 (lv_at hl 0 rfl) ?_
            refine lv_if_eq (tgt := 102) hx hb dX6_halve_90 (by decide) (fun c_90 => ?_) (fun c_90 => ?_)
            · refine lv_iload hx hb dX6_halve_102 (lv_at hl 1 rfl) ?_
              refine lv_iconst (v := 1) hx hb dX6_halve_104 (by decide) ?_
              refine lv_iadd hx hb dX6_halve_105 ?_
              refine qh_topi (y := nI ((a + b) / 2 + 1)) (nI_1 _) ?_
              refine qh_iast hx hb hK hH (by omega) h_j (j := t) (rfl) (by omega) (by omega) dX6_halve_106 (fun E_2 H locs h_j hfr hH _ => ?_)
              have h_j : E_2 j = qa_I G 32 (hvF (spF c) (spF c0) (t + 1)) := h_j.trans (congrArg (qa_I G 32) (by rw [← hvF_s, hsF]))
              have h_k := (hfr k (by omega)).trans h_k
              have hF : ∀ x9, x9 ≠ j → x9 ≠ k → E_2 x9 = E x9 := fun x9 a0 a1 => (hfr x9 a0).trans (hF x9 a0 a1)
              refine lv_aload_n hx hb dX6_halve_107 rfl (lv_at hl 3 rfl) ?_
              refine qh_get hx hb hH f_15 (by omega) ((hF i (by omega) (by omega)).trans b_i) rfl dX6_halve_108 ?_
              refine lv_iload_n hx hb dX6_halve_111 rfl (lv_at hl 4 rfl) ?_
              refine lv_iload hx hb dX6_halve_112 (lv_at hl 0 rfl) ?_
              refine lv_if_eq (tgt := 122) hx hb dX6_halve_114 (by decide) (fun c_114 => ?_) (fun c_114 => ?_)
              · refine lv_aload_n hx hb dX6_halve_122 rfl (lv_at hl 3 rfl) ?_
                refine qh_get hx hb hH f_15 (by omega) ((hF i (by omega) (by omega)).trans b_i) rfl dX6_halve_123 ?_
                refine lv_iload_n hx hb dX6_halve_126 rfl (lv_at hl 2 rfl) ?_
                refine qh_iald hx hb hK hH (by omega) h_k (j := t / 2) (rfl) (by omega) (by omega) dX6_halve_127 ?_
                refine qh_topi (y := nI b) (hwL ▸ hvF_lt (by omega)) ?_
                refine qh_iast hx hb hK hH (by omega) h_k (j := t) (rfl) (by omega) (by omega) dX6_halve_128 (fun E_3 H locs h_k hfr hH _ => ?_)
                have h_k : E_3 k = qa_I G 32 (hvF (spL c) (spL c0) (t + 1)) := h_k.trans (congrArg (qa_I G 32) (by rw [← hvF_s, hsL]))
                have h_j := (hfr j (by omega)).trans h_j
                have hF : ∀ x9, x9 ≠ j → x9 ≠ k → E_3 x9 = E x9 := fun x9 a0 a1 => (hfr x9 a1).trans (hF x9 a0 a1)
                refine lv_iinc (v := nI (t + 1)) (lv' := [(2, .int (nI (t + 1))), (5, .int 0), (4, .int (nI ((a + b) / 2))), (3, .int (nI (t / 2))), (0, .ref (z + i))]) hx hb dX6_halve_129 hl (k := 4) rfl (qn_inc t) (by decide) rfl (fun ls hl => ?_)
                refine lv_goto (tgt := 11) hx hb dX6_halve_132 (by decide) ?_
                exact ih (t + 1) (by omega) (by omega) E_3 h_j h_k (fun x9 a0 a1 => hF x9 a0 a1) _ _ hH ls (lv_sub hl [4, 0] rfl)
              · exact absurd (by decide) c_114
            · exact absurd (by decide) c_90
          · have hpar : t % 2 = 0 := by
              rcases Nat.eq_zero_or_pos (t % 2) with w | w
              · exact w
              · exact absurd c_73 (nI_ne0 w (by omega))
            obtain ⟨hsF, hsL⟩ := sp_even hc.2 (by omega) (by omega) hw hab hpar
            refine lv_iconst (v := 1) hx hb dX6_halve_76 (by decide) ?_
            refine lv_goto (tgt := 81) hx hb dX6_halve_77 (by decide) ?_
            refine lv_istore (lv' := [(5, .int 1), (4, .int (nI ((a + b) / 2))), (3, .int (nI (t / 2))), (0, .ref (z + i)), (2, .int (nI t))]) hx hb dX6_halve_81 hl (by decide) rfl (fun ls hl => ?_)
            refine lv_aload_n hx hb dX6_halve_83 rfl (lv_at hl 3 rfl) ?_
            refine qh_get hx hb hH f_9 (by omega) ((hF i (by omega) (by omega)).trans b_i) rfl dX6_halve_84 ?_
            refine lv_iload_n hx hb dX6_halve_87 rfl (lv_at hl 4 rfl) ?_
            refine lv_iload hx hb dX6_halve_88 (lv_at hl 0 rfl) ?_
            refine lv_if_eq (tgt := 102) hx hb dX6_halve_90 (by decide) (fun c_90 => ?_) (fun c_90 => ?_)
            · exact absurd c_90 (by decide)
            · refine lv_aload_n hx hb dX6_halve_93 rfl (lv_at hl 3 rfl) ?_
              refine qh_get hx hb hH f_9 (by omega) ((hF i (by omega) (by omega)).trans b_i) rfl dX6_halve_94 ?_
              refine lv_iload_n hx hb dX6_halve_97 rfl (lv_at hl 2 rfl) ?_
              refine qh_iald hx hb hK hH (by omega) h_j (j := t / 2) (rfl) (by omega) (by omega) dX6_halve_98 ?_
              refine qh_topi (y := nI a) (hwF ▸ hvF_lt (by omega)) ?_
              refine lv_goto (tgt := 106) hx hb dX6_halve_99 (by decide) ?_
              refine qh_iast hx hb hK hH (by omega) h_j (j := t) (rfl) (by omega) (by omega) dX6_halve_106 (fun E_4 H locs h_j hfr hH _ => ?_)
              have h_j : E_4 j = qa_I G 32 (hvF (spF c) (spF c0) (t + 1)) := h_j.trans (congrArg (qa_I G 32) (by rw [← hvF_s, hsF]))
              have h_k := (hfr k (by omega)).trans h_k
              have hF : ∀ x9, x9 ≠ j → x9 ≠ k → E_4 x9 = E x9 := fun x9 a0 a1 => (hfr x9 a0).trans (hF x9 a0 a1)
              refine lv_aload_n hx hb dX6_halve_107 rfl (lv_at hl 3 rfl) ?_
              refine qh_get hx hb hH f_15 (by omega) ((hF i (by omega) (by omega)).trans b_i) rfl dX6_halve_108 ?_
              refine lv_iload_n hx hb dX6_halve_111 rfl (lv_at hl 4 rfl) ?_
              refine lv_iload hx hb dX6_halve_112 (lv_at hl 0 rfl) ?_
              refine lv_if_eq (tgt := 122) hx hb dX6_halve_114 (by decide) (fun c_114 => ?_) (fun c_114 => ?_)
              · exact absurd c_114 (by decide)
              · refine lv_iload hx hb dX6_halve_117 (lv_at hl 1 rfl) ?_
                refine lv_goto (tgt := 128) hx hb dX6_halve_119 (by decide) ?_
                refine qh_iast hx hb hK hH (by omega) h_k (j := t) (rfl) (by omega) (by omega) dX6_halve_128 (fun E_5 H locs h_k hfr hH _ => ?_)
                have h_k : E_5 k = qa_I G 32 (hvF (spL c) (spL c0) (t + 1)) := h_k.trans (congrArg (qa_I G 32) (by rw [← hvF_s, hsL]))
                have h_j := (hfr j (by omega)).trans h_j
                have hF : ∀ x9, x9 ≠ j → x9 ≠ k → E_5 x9 = E x9 := fun x9 a0 a1 => (hfr x9 a1).trans (hF x9 a0 a1)
                refine lv_iinc (v := nI (t + 1)) (lv' := [(2, .int (nI (t + 1))), (5, .int 1), (4, .int (nI ((a + b) / 2))), (3, .int (nI (t / 2))), (0, .ref (z + i))]) hx hb dX6_halve_129 hl (k := 4) rfl (qn_inc t) (by decide) rfl (fun ls hl => ?_)
                refine lv_goto (tgt := 11) hx hb dX6_halve_132 (by decide) ?_
                exact ih (t + 1) (by omega) (by omega) E_5 h_j h_k (fun x9 a0 a1 => hF x9 a0 a1) _ _ hH ls (lv_sub hl [4, 0] rfl)
        · have hsn := sp_non hc.2 ht.1 hk c_33
          refine lv_aload_n hx hb dX6_halve_36 rfl (lv_at hl 1 rfl) ?_
          refine qh_get hx hb hH f_9 (by omega) ((hF i (by omega) (by omega)).trans b_i) rfl dX6_halve_37 ?_
          refine lv_iload_n hx hb dX6_halve_40 rfl (lv_at hl 2 rfl) ?_
          refine lv_iconst (v := 0) hx hb dX6_halve_41 (by decide) ?_
          refine qh_iast hx hb hK hH (by omega) h_j (j := t) (rfl) (by omega) (by omega) dX6_halve_42 (fun E_6 H locs h_j hfr hH _ => ?_)
          have h_j : E_6 j = qa_I G 32 (hvF (spF c) (spF c0) (t + 1)) := h_j.trans (congrArg (qa_I G 32) (by rw [← hvF_s, hsn.1]))
          have h_k := (hfr k (by omega)).trans h_k
          have hF : ∀ x9, x9 ≠ j → x9 ≠ k → E_6 x9 = E x9 := fun x9 a0 a1 => (hfr x9 a0).trans (hF x9 a0 a1)
          refine lv_aload_n hx hb dX6_halve_43 rfl (lv_at hl 1 rfl) ?_
          refine qh_get hx hb hH f_15 (by omega) ((hF i (by omega) (by omega)).trans b_i) rfl dX6_halve_44 ?_
          refine lv_iload_n hx hb dX6_halve_47 rfl (lv_at hl 2 rfl) ?_
          refine lv_iconst (v := (-1)) hx hb dX6_halve_48 (by decide) ?_
          refine qh_iast hx hb hK hH (by omega) h_k (j := t) (rfl) (by omega) (by omega) dX6_halve_49 (fun E_7 H locs h_k hfr hH _ => ?_)
          have h_k : E_7 k = qa_I G 32 (hvF (spL c) (spL c0) (t + 1)) := h_k.trans (congrArg (qa_I G 32) (by rw [← hvF_s, hsn.2]))
          have h_j := (hfr j (by omega)).trans h_j
          have hF : ∀ x9, x9 ≠ j → x9 ≠ k → E_7 x9 = E x9 := fun x9 a0 a1 => (hfr x9 a1).trans (hF x9 a0 a1)
          refine lv_goto (tgt := 129) hx hb dX6_halve_50 (by decide) ?_
          refine lv_iinc (v := nI (t + 1)) (lv' := [(2, .int (nI (t + 1))), (3, .int (nI (t / 2))), (0, .ref (z + i))]) hx hb dX6_halve_129 hl (k := 2) rfl (qn_inc t) (by decide) rfl (fun ls hl => ?_)
          refine lv_goto (tgt := 11) hx hb dX6_halve_132 (by decide) ?_
          exact ih (t + 1) (by omega) (by omega) E_7 h_j h_k (fun x9 a0 a1 => hF x9 a0 a1) _ _ hH ls (lv_sub hl [2, 0] rfl)
  exact L_11 31 2 (by omega) (by omega) E_1 (((hF j (by omega)).trans b_j).trans (congrArg (qa_I G 32) (hvF_2 hc.1))) h_k (fun x9 a0 a1 => hF x9 a1) _ _ hH ls (lv_sub hl [1, 0] rfl)

set_option maxHeartbeats 4000000 in
set_option maxRecDepth 100000 in
theorem c_X2_next (l : Launch) (G : qh_G) (z M : Nat) (E : Nat → va_E) (i : Nat) (j : Nat) (ab : Nat) (n : Nat) (hi : i < M ∧ j < M ∧ i ≠ j) (hn : n < 24) (b_i : E i = .inr (2, [.int (nI n), .ref (z + j)])) (b_j : E j = qa_A G 24 (rfA z ab)) : Met l yX2_next wsX2_next (qh_R 0) (qh_Pre G z M E [.ref (z + i)]) (qh_Q G z M (qh_a (fun r E' => r = .ref (z + (ab + n)) ∧ E' i = .inr (2, [.int (nI (n + 1)), .ref (z + j)]) ∧ ∀ x9, x9 ≠ i → E' x9 = E x9))) 0 0 (fun q => z ≤ q) := by
  refine qh_metA (cc := cX2_next) (maxL := 1) (by decide) rfl (Nat.le_of_ble_eq_true rfl) ?_
  intro pZ eZ sZ mZ aZ bZ tZ cZ RR QQ ls hx hb hml hown hts hRf hRl hH hK hl hret
  have hown : sZ.vm.findClass RX2 = some mZ.cls := hown
  have hl : lv_has ls 1 [(0, .ref (z + i))] := hl
  have in_X2 : ∀ w ∈ wsX20, w ∈ wsX2_next := fun w h => List.mem_cons_of_mem _ (List.mem_append_right _ h)
  have f_9 : qh_F G sZ mZ aZ 9 2 0 := qh_F.of hts in_X2 hown hK rfl 0 (by decide) (by decide +kernel)
  have w_9 : qh_W G sZ mZ aZ 9 2 0 .int := qh_W.of hts in_X2 tyX2 tyX2_ok nmX2 hown hK rfl 0 (by decide) (by decide +kernel) rfl (by decide +kernel)
  have f_17 : qh_F G sZ mZ aZ 17 2 1 := qh_F.of hts in_X2 hown hK rfl 1 (by decide) (by decide +kernel)
  refine lv_aload_n hx hb dX2_next_0 rfl (lv_at hl 0 rfl) ?_
  refine qh_get hx hb hH f_9 (by omega) b_i rfl dX2_next_1 ?_
  refine lv_bipush (v := 24) hx hb dX2_next_4 (by decide) ?_
  refine lv_icmp_lt (tgt := 11) hx hb dX2_next_6 (by decide) (fun c_6 => ?_) (fun c_6 => ?_)
  · refine lv_aload_n hx hb dX2_next_11 rfl (lv_at hl 0 rfl) ?_
    refine lv_dup hx hb dX2_next_12 rfl ?_
    refine qh_get hx hb hH f_9 (by omega) b_i rfl dX2_next_13 ?_
    refine lv_iconst (v := 1) hx hb dX2_next_16 (by decide) ?_
    refine lv_iadd hx hb dX2_next_17 ?_
    refine qh_topi (y := nI (n + 1)) (nI_1 n) ?_
    refine qh_put (fs' := [.int (nI (n + 1)), .ref (z + j)]) hx hb hH w_9 (by omega) b_i rfl rfl (Nat.le_of_ble_eq_true rfl) rfl dX2_next_18 (fun E_1 H locs h_i hfr hH _ => ?_)
    have hF : ∀ x9, x9 ≠ i → E_1 x9 = E x9 := fun x9 a0 => hfr x9 a0
    refine lv_aload_n hx hb dX2_next_21 rfl (lv_at hl 0 rfl) ?_
    refine qh_get hx hb hH f_17 (by omega) h_i rfl dX2_next_22 ?_
    refine lv_aload_n hx hb dX2_next_25 rfl (lv_at hl 0 rfl) ?_
    refine qh_get hx hb hH f_9 (by omega) h_i rfl dX2_next_26 ?_
    refine lv_iconst (v := 1) hx hb dX2_next_29 (by decide) ?_
    refine lv_isub hx hb dX2_next_30 ?_
    refine qh_topi (y := nI n) (nI_pred n) ?_
    refine qh_aaldA (a := z + (ab + n)) hx hb hK hH (by omega) ((hF j (by omega)).trans b_j) (j := n) (rfl) (by omega) (by omega) (rfl) dX2_next_31 ?_
    exact hret dX2_next_32 hH (Or.inr ⟨_, rfl⟩) (⟨rfl, h_i, hF⟩)
  · exact absurd (nI_lt hn (by decide)) c_6

set_option maxHeartbeats 4000000 in
set_option maxRecDepth 100000 in
theorem c_X2_next_full (l : Launch) (G : qh_G) (z M : Nat) (E : Nat → va_E) (i : Nat) (j : Nat) (n : Nat) (hi : i < M) (hn : 24 ≤ n ∧ n < 100) (b_i : E i = .inr (2, [.int (nI n), .ref (z + j)])) : Met l yX2_next wsX2_next (qh_R 0) (qh_Pre G z M E [.ref (z + i)]) (qh_Q G z M (qh_a (fun r E' => E = E' ∧ r = .null))) 0 0 (fun q => z ≤ q) := by
  refine qh_metA (cc := cX2_next) (maxL := 1) (by decide) rfl (Nat.le_of_ble_eq_true rfl) ?_
  intro pZ eZ sZ mZ aZ bZ tZ cZ RR QQ ls hx hb hml hown hts hRf hRl hH hK hl hret
  have hown : sZ.vm.findClass RX2 = some mZ.cls := hown
  have hl : lv_has ls 1 [(0, .ref (z + i))] := hl
  have in_X2 : ∀ w ∈ wsX20, w ∈ wsX2_next := fun w h => List.mem_cons_of_mem _ (List.mem_append_right _ h)
  have f_9 : qh_F G sZ mZ aZ 9 2 0 := qh_F.of hts in_X2 hown hK rfl 0 (by decide) (by decide +kernel)
  refine lv_aload_n hx hb dX2_next_0 rfl (lv_at hl 0 rfl) ?_
  refine qh_get hx hb hH f_9 (by omega) b_i rfl dX2_next_1 ?_
  refine lv_bipush (v := 24) hx hb dX2_next_4 (by decide) ?_
  refine lv_icmp_lt (tgt := 11) hx hb dX2_next_6 (by decide) (fun c_6 => ?_) (fun c_6 => ?_)
  · exact absurd c_6 (nI_nlt hn.1 (by omega))
  · refine lv_null hx hb dX2_next_9 ?_
    exact hret dX2_next_10 hH (Or.inl rfl) (⟨rfl, rfl⟩)

set_option maxHeartbeats 4000000 in
set_option maxRecDepth 100000 in
theorem c_X2_actsOf (l : Launch) (G : qh_G) (z M : Nat) (E : Nat → va_E) (i : Nat) (j : Nat) (ab : Nat) (n : Nat) (ts : Nat → Int32) (fr : Nat → Int32) (to : Nat → Int32) (va : Nat → Int64) (h : Int32) (hi : i < M ∧ j < M ∧ ab + n ≤ M) (hn : n ≤ 24) (b_i : E i = .inr (2, [.int (nI n), .ref (z + j)])) (b_j : E j = qa_A G 24 (rfA z ab)) (hacts : ∀ t, t < n → E (ab + t) = .inr (0, [.int (ts t), .int (fr t), .int (to t), .long (va t)])) : Met l yX2_actsOf wsX2_actsOf (qh_R 1) (qh_Pre G z M E [.ref (z + i), .int h]) (qh_Q G z M (qh_i (fun r E' => E = E' ∧ r = nI (cntR (fun t => decide ((ts t = 3 ∨ ts t = 4) ∧ va t = h.toInt64)) 0 n)))) 0 0 (fun q => z ≤ q) := by
  refine qh_metI (cc := cX2_actsOf) (maxL := 4) (by decide) rfl (Nat.le_of_ble_eq_true rfl) ?_
  intro pZ eZ sZ mZ aZ bZ tZ cZ RR QQ ls hx hb hml hown hts hRf hRl hH hK hl hret
  have hown : sZ.vm.findClass RX2 = some mZ.cls := hown
  have hl : lv_has ls 4 [(0, .ref (z + i)), (1, .int h)] := hl
  have in_X2 : ∀ w ∈ wsX20, w ∈ wsX2_actsOf := fun w h => List.mem_cons_of_mem _ (List.mem_append_left _ (List.mem_append_right _ h))
  have in_X0 : ∀ w ∈ wsX00, w ∈ wsX2_actsOf := fun w h => List.mem_cons_of_mem _ (List.mem_append_right _ h)
  have f_9 : qh_F G sZ mZ aZ 9 2 0 := qh_F.of hts in_X2 hown hK rfl 0 (by decide) (by decide +kernel)
  have f_17 : qh_F G sZ mZ aZ 17 2 1 := qh_F.of hts in_X2 hown hK rfl 1 (by decide) (by decide +kernel)
  have f_26 : qh_F G sZ mZ aZ 26 0 3 := qh_F.of hts in_X0 hown hK rfl 3 (by decide) (by decide +kernel)
  refine lv_iconst (v := 0) hx hb dX2_actsOf_0 (by decide) ?_
  refine lv_istore_n (lv' := [(2, .int 0), (0, .ref (z + i)), (1, .int h)]) hx hb dX2_actsOf_1 rfl hl (by decide) rfl (fun ls hl => ?_)
  refine lv_iconst (v := 0) hx hb dX2_actsOf_2 (by decide) ?_
  refine lv_istore_n (lv' := [(3, .int 0), (2, .int 0), (0, .ref (z + i)), (1, .int h)]) hx hb dX2_actsOf_3 rfl hl (by decide) rfl (fun ls hl => ?_)
  have L_4 : ∀ fu : Nat, ∀ q : Nat, (q ≤ n) → (n - q < fu) → ∀ (H : Heap) (locs : List Loc), qh_H G z M E sZ.heap H locs → ∀ ls : Array Slot, lv_has ls 4 [(0, .ref (z + i)), (1, .int h), (2, .int (nI (cntR (fun t => decide ((ts t = 3 ∨ ts t = 4) ∧ va t = h.toInt64)) 0 q))), (3, .int (nI q))] → W pZ l eZ RR sZ mZ aZ bZ tZ cZ H locs 0 0 QQ (F0 mZ 4 ls []) := by
    intro fu
    induction fu with
    | zero =>
      intro q hq hfuel
      exact absurd hfuel (by omega)
    | succ fu ih =>
      intro q hq hfuel H locs hH ls hl
      refine lv_iload_n hx hb dX2_actsOf_4 rfl (lv_at hl 3 rfl) ?_
      refine lv_aload_n hx hb dX2_actsOf_5 rfl (lv_at hl 0 rfl) ?_
      refine qh_get hx hb hH f_9 (by omega) b_i rfl dX2_actsOf_6 ?_
      refine lv_icmp_ge (tgt := 48) hx hb dX2_actsOf_9 (by decide) (fun c_9 => ?_) (fun c_9 => ?_)
      · have hk : q = n := by
          rcases Nat.lt_or_ge q n with w | w
          · exact absurd c_9 (nI_ge w (by omega))
          · omega
        subst hk
        refine lv_iload_n hx hb dX2_actsOf_48 rfl (lv_at hl 2 rfl) ?_
        exact hret dX2_actsOf_49 hH (⟨rfl, rfl⟩)
      · have hk : q < n := by
          rcases Nat.lt_or_ge q n with w | w
          · exact w
          · exact absurd (nI_le w (by omega)) c_9
        refine lv_aload_n hx hb dX2_actsOf_12 rfl (lv_at hl 0 rfl) ?_
        refine qh_get hx hb hH f_17 (by omega) b_i rfl dX2_actsOf_13 ?_
        refine lv_iload_n hx hb dX2_actsOf_16 rfl (lv_at hl 3 rfl) ?_
        refine qh_aaldA (a := z + (ab + q)) hx hb hK hH (by omega) b_j (j := q) (rfl) (by omega) (by omega) (rfl) dX2_actsOf_17 ?_
        refine qh_runV (As := []) (rest := []) (C := RX0) ⟨hx, hb, hml, hown, hts⟩ hK hH (c_X0_isHelp l G z M E (ab + q) (ts q) (fr q) (to q) (va q) (by omega) (hacts q (by omega))) (cwV 0 hts gX2_actsOf_X0_isHelp rfl rfl rfl (by decide +kernel) (by rw [hRf, hRl]; exact ⟨Nat.le_of_ble_eq_true rfl, Nat.le_of_ble_eq_true rfl⟩)) (by omega) (hacts q (by omega)) rfl rfl hl.1 rfl (Nat.le_of_ble_eq_true rfl) dX2_actsOf_18 ⟨Nat.zero_le _, Nat.zero_le _⟩ (qh_kki fun r_18 E_1 H locs hpost hH => ?_)
        obtain ⟨rfl, rfl⟩ := hpost
        refine lv_if_eq (tgt := 42) hx hb dX2_actsOf_21 (by decide) (fun c_21 => ?_) (fun c_21 => ?_)
        · have c_21 := bI_eq.mp c_21
          refine lv_iinc (v := nI (q + 1)) (lv' := [(3, .int (nI (q + 1))), (0, .ref (z + i)), (1, .int h), (2, .int (nI (cntR (fun t => decide ((ts t = 3 ∨ ts t = 4) ∧ va t = h.toInt64)) 0 q)))]) hx hb dX2_actsOf_42 hl (k := 3) rfl (qn_inc q) (by decide) rfl (fun ls hl => ?_)
          refine lv_goto (tgt := 4) hx hb dX2_actsOf_45 (by decide) ?_
          rw [← cnt0_n (q := (fun t => decide ((ts t = 3 ∨ ts t = 4) ∧ va t = h.toInt64))) (by simp [c_21])] at hl
          exact ih (q + 1) (by omega) (by omega) _ _ hH ls (lv_sub hl [1, 2, 3, 0] rfl)
        · have c_21 := bI_ne.mp c_21
          refine lv_aload_n hx hb dX2_actsOf_24 rfl (lv_at hl 0 rfl) ?_
          refine qh_get hx hb hH f_17 (by omega) b_i rfl dX2_actsOf_25 ?_
          refine lv_iload_n hx hb dX2_actsOf_28 rfl (lv_at hl 3 rfl) ?_
          refine qh_aaldA (a := z + (ab + q)) hx hb hK hH (by omega) b_j (j := q) (rfl) (by omega) (by omega) (rfl) dX2_actsOf_29 ?_
          refine qh_get hx hb hH f_26 (by omega) (hacts q (by omega)) rfl dX2_actsOf_30 ?_
          refine lv_iload_n hx hb dX2_actsOf_33 rfl (lv_at hl 1 rfl) ?_
          refine lv_i2l (v := h.toInt64) hx hb dX2_actsOf_34 rfl ?_
          refine W.lcmp hx hb dX2_actsOf_35 ?_
          refine lv_if_ne (tgt := 42) hx hb dX2_actsOf_36 (by decide) (fun c_36 => ?_) (fun c_36 => ?_)
          · have c_36 := (lg_cmp_ne _ _).mp c_36
            refine lv_iinc (v := nI (q + 1)) (lv' := [(3, .int (nI (q + 1))), (0, .ref (z + i)), (1, .int h), (2, .int (nI (cntR (fun t => decide ((ts t = 3 ∨ ts t = 4) ∧ va t = h.toInt64)) 0 q)))]) hx hb dX2_actsOf_42 hl (k := 3) rfl (qn_inc q) (by decide) rfl (fun ls hl => ?_)
            refine lv_goto (tgt := 4) hx hb dX2_actsOf_45 (by decide) ?_
            rw [← cnt0_n (q := (fun t => decide ((ts t = 3 ∨ ts t = 4) ∧ va t = h.toInt64))) (by simp [c_36])] at hl
            exact ih (q + 1) (by omega) (by omega) _ _ hH ls (lv_sub hl [1, 2, 3, 0] rfl)
          · have c_36 := (lg_cmp_eq _ _).mp c_36
            refine lv_iinc (v := nI ((cntR (fun t => decide ((ts t = 3 ∨ ts t = 4) ∧ va t = h.toInt64)) 0 q) + 1)) (lv' := [(2, .int (nI ((cntR (fun t => decide ((ts t = 3 ∨ ts t = 4) ∧ va t = h.toInt64)) 0 q) + 1))), (0, .ref (z + i)), (1, .int h), (3, .int (nI q))]) hx hb dX2_actsOf_39 hl (k := 2) rfl (qn_inc (cntR (fun t => decide ((ts t = 3 ∨ ts t = 4) ∧ va t = h.toInt64)) 0 q)) (by decide) rfl (fun ls hl => ?_)
            refine lv_iinc (v := nI (q + 1)) (lv' := [(3, .int (nI (q + 1))), (2, .int (nI ((cntR (fun t => decide ((ts t = 3 ∨ ts t = 4) ∧ va t = h.toInt64)) 0 q) + 1))), (0, .ref (z + i)), (1, .int h)]) hx hb dX2_actsOf_42 hl (k := 3) rfl (qn_inc q) (by decide) rfl (fun ls hl => ?_)
            refine lv_goto (tgt := 4) hx hb dX2_actsOf_45 (by decide) ?_
            rw [← cnt0_y (q := (fun t => decide ((ts t = 3 ∨ ts t = 4) ∧ va t = h.toInt64))) (by simp [c_21, c_36])] at hl
            exact ih (q + 1) (by omega) (by omega) _ _ hH ls (lv_sub hl [2, 3, 1, 0] rfl)
  exact L_4 (n + 1) 0 (Nat.zero_le _) (by omega) _ _ hH ls (lv_sub hl [2, 3, 1, 0] rfl)

set_option maxHeartbeats 4000000 in
set_option maxRecDepth 100000 in
theorem c_X4_keep (l : Launch) (G : qh_G) (z M : Nat) (E : Nat → va_E) (i : Nat) (j : Nat) (k : Nat) (n : Nat) (a : Nat) (v : Int64) (cn : Nat → Nat) (vs : Nat → Int64) (hi : i < M ∧ j < M ∧ k < M) (hd : i ≠ j ∧ i ≠ k ∧ j ≠ k) (hn : n < 8) (b_i : E i = .inr (4, [.int (nI n), .ref (z + j), .ref (z + k)])) (b_j : E j = qa_I G 8 (rdC cn)) (b_k : E k = qa_J G 8 vs) : Met l yX4_keep wsX4_keep (qh_R 0) (qh_Pre G z M E [.ref (z + i), .int (nI a), .long v]) (qh_Q G z M (qh_i (fun r E' => r = nI n ∧ E' i = .inr (4, [.int (nI (n + 1)), .ref (z + j), .ref (z + k)]) ∧ E' j = qa_I G 8 (rdC (upN cn n a)) ∧ E' k = qa_J G 8 (vp_updL vs n v) ∧ ∀ x9, x9 ≠ i → x9 ≠ j → x9 ≠ k → E' x9 = E x9))) 0 0 (fun q => z ≤ q) := by
  refine qh_metI (cc := cX4_keep) (maxL := 4) (by decide) rfl (Nat.le_of_ble_eq_true rfl) ?_
  intro pZ eZ sZ mZ aZ bZ tZ cZ RR QQ ls hx hb hml hown hts hRf hRl hH hK hl hret
  have hown : sZ.vm.findClass RX4 = some mZ.cls := hown
  have hl : lv_has ls 4 [(0, .ref (z + i)), (1, .int (nI a)), (2, .long v)] := hl
  have in_X4 : ∀ w ∈ wsX40, w ∈ wsX4_keep := fun w h => List.mem_cons_of_mem _ (List.mem_append_right _ h)
  have f_9 : qh_F G sZ mZ aZ 9 4 0 := qh_F.of hts in_X4 hown hK rfl 0 (by decide) (by decide +kernel)
  have f_15 : qh_F G sZ mZ aZ 15 4 1 := qh_F.of hts in_X4 hown hK rfl 1 (by decide) (by decide +kernel)
  have f_19 : qh_F G sZ mZ aZ 19 4 2 := qh_F.of hts in_X4 hown hK rfl 2 (by decide) (by decide +kernel)
  have w_9 : qh_W G sZ mZ aZ 9 4 0 .int := qh_W.of hts in_X4 tyX4 tyX4_ok nmX4 hown hK rfl 0 (by decide) (by decide +kernel) rfl (by decide +kernel)
  refine lv_aload_n hx hb dX4_keep_0 rfl (lv_at hl 0 rfl) ?_
  refine qh_get hx hb hH f_9 (by omega) b_i rfl dX4_keep_1 ?_
  refine lv_bipush (v := 8) hx hb dX4_keep_4 (by decide) ?_
  refine lv_icmp_lt (tgt := 12) hx hb dX4_keep_6 (by decide) (fun c_6 => ?_) (fun c_6 => ?_)
  · refine lv_aload_n hx hb dX4_keep_12 rfl (lv_at hl 0 rfl) ?_
    refine qh_get hx hb hH f_15 (by omega) b_i rfl dX4_keep_13 ?_
    refine lv_aload_n hx hb dX4_keep_16 rfl (lv_at hl 0 rfl) ?_
    refine qh_get hx hb hH f_9 (by omega) b_i rfl dX4_keep_17 ?_
    refine lv_iload_n hx hb dX4_keep_20 rfl (lv_at hl 1 rfl) ?_
    refine qh_iast hx hb hK hH (by omega) b_j (j := n) (rfl) (by omega) (by omega) dX4_keep_21 (fun E_1 H locs h_j hfr hH _ => ?_)
    have h_j : E_1 j = qa_I G 8 (rdC (upN cn n a)) := h_j.trans (congrArg (qa_I G 8) (rdC_up ..))
    have hF : ∀ x9, x9 ≠ j → E_1 x9 = E x9 := fun x9 a0 => hfr x9 a0
    refine lv_aload_n hx hb dX4_keep_22 rfl (lv_at hl 0 rfl) ?_
    refine qh_get hx hb hH f_19 (by omega) ((hF i (by omega)).trans b_i) rfl dX4_keep_23 ?_
    refine lv_aload_n hx hb dX4_keep_26 rfl (lv_at hl 0 rfl) ?_
    refine qh_get hx hb hH f_9 (by omega) ((hF i (by omega)).trans b_i) rfl dX4_keep_27 ?_
    refine lv_lload_n hx hb dX4_keep_30 rfl (lv_at hl 2 rfl) ?_
    refine qh_last hx hb hK hH (by omega) ((hF k (by omega)).trans b_k) (j := n) (rfl) (by omega) (by omega) dX4_keep_31 (fun E_2 H locs h_k hfr hH _ => ?_)
    have h_j := (hfr j (by omega)).trans h_j
    have hF : ∀ x9, x9 ≠ j → x9 ≠ k → E_2 x9 = E x9 := fun x9 a0 a1 => (hfr x9 a1).trans (hF x9 a0)
    refine lv_aload_n hx hb dX4_keep_32 rfl (lv_at hl 0 rfl) ?_
    refine lv_dup hx hb dX4_keep_33 rfl ?_
    refine qh_get hx hb hH f_9 (by omega) ((hF i (by omega) (by omega)).trans b_i) rfl dX4_keep_34 ?_
    refine lv_iconst (v := 1) hx hb dX4_keep_37 (by decide) ?_
    refine lv_iadd hx hb dX4_keep_38 ?_
    refine qh_topi (y := nI (n + 1)) (nI_1 n) ?_
    refine qh_put (fs' := [.int (nI (n + 1)), .ref (z + j), .ref (z + k)]) hx hb hH w_9 (by omega) ((hF i (by omega) (by omega)).trans b_i) rfl rfl (Nat.le_of_ble_eq_true rfl) rfl dX4_keep_39 (fun E_3 H locs h_i hfr hH _ => ?_)
    have h_j := (hfr j (by omega)).trans h_j
    have h_k := (hfr k (by omega)).trans h_k
    have hF : ∀ x9, x9 ≠ j → x9 ≠ k → x9 ≠ i → E_3 x9 = E x9 := fun x9 a0 a1 a2 => (hfr x9 a2).trans (hF x9 a0 a1)
    refine lv_aload_n hx hb dX4_keep_42 rfl (lv_at hl 0 rfl) ?_
    refine qh_get hx hb hH f_9 (by omega) h_i rfl dX4_keep_43 ?_
    refine lv_iconst (v := 1) hx hb dX4_keep_46 (by decide) ?_
    refine lv_isub hx hb dX4_keep_47 ?_
    refine qh_topi (y := nI n) (nI_pred n) ?_
    exact hret dX4_keep_48 hH (⟨rfl, h_i, h_j, h_k, fun x a b c => hF x b c a⟩)
  · exact absurd (nI_lt hn (by decide)) c_6

set_option maxHeartbeats 4000000 in
set_option maxRecDepth 100000 in
theorem c_X4_keep_full (l : Launch) (G : qh_G) (z M : Nat) (E : Nat → va_E) (i : Nat) (n : Nat) (a : Int32) (v : Int64) (u1 : Value) (u2 : Value) (hi : i < M) (hn : 8 ≤ n ∧ n < 100) (b_i : E i = .inr (4, [.int (nI n), u1, u2])) : Met l yX4_keep wsX4_keep (qh_R 0) (qh_Pre G z M E [.ref (z + i), .int a, .long v]) (qh_Q G z M (qh_i (fun r E' => E = E' ∧ r = (-4)))) 0 0 (fun q => z ≤ q) := by
  refine qh_metI (cc := cX4_keep) (maxL := 4) (by decide) rfl (Nat.le_of_ble_eq_true rfl) ?_
  intro pZ eZ sZ mZ aZ bZ tZ cZ RR QQ ls hx hb hml hown hts hRf hRl hH hK hl hret
  have hown : sZ.vm.findClass RX4 = some mZ.cls := hown
  have hl : lv_has ls 4 [(0, .ref (z + i)), (1, .int a), (2, .long v)] := hl
  have in_X4 : ∀ w ∈ wsX40, w ∈ wsX4_keep := fun w h => List.mem_cons_of_mem _ (List.mem_append_right _ h)
  have f_9 : qh_F G sZ mZ aZ 9 4 0 := qh_F.of hts in_X4 hown hK rfl 0 (by decide) (by decide +kernel)
  refine lv_aload_n hx hb dX4_keep_0 rfl (lv_at hl 0 rfl) ?_
  refine qh_get hx hb hH f_9 (by omega) b_i rfl dX4_keep_1 ?_
  refine lv_bipush (v := 8) hx hb dX4_keep_4 (by decide) ?_
  refine lv_icmp_lt (tgt := 12) hx hb dX4_keep_6 (by decide) (fun c_6 => ?_) (fun c_6 => ?_)
  · exact absurd c_6 (nI_nlt hn.1 (by omega))
  · refine lv_bipush (v := (-4)) hx hb dX4_keep_9 (by decide) ?_
    exact hret dX4_keep_11 hH (⟨rfl, rfl⟩)

set_option maxHeartbeats 4000000 in
set_option maxRecDepth 100000 in
theorem c_X4_areSoBy (l : Launch) (G : qh_G) (z M : Nat) (E : Nat → va_E) (i : Nat) (j : Nat) (k : Nat) (n : Nat) (i2 : Nat) (j2 : Nat) (c : Nat) (cn : Nat → Nat) (vs : Nat → Int64) (f : Nat → Int64) (u2 : Value) (hi : i < M ∧ j < M ∧ k < M ∧ i2 < M ∧ j2 < M) (hn : n ≤ 8 ∧ c ≤ 16) (hcn : ∀ q, q < n → cn q < c) (b_i : E i = .inr (4, [.int (nI n), .ref (z + j), .ref (z + k)])) (b_j : E j = qa_I G 8 (rdC cn)) (b_k : E k = qa_J G 8 vs) (b_i2 : E i2 = .inr (3, [.int (nI c), .ref (z + j2), u2])) (b_j2 : E j2 = qa_J G 16 f) : Met l yX4_areSoBy wsX4_areSoBy (qh_R 1) (qh_Pre G z M E [.ref (z + i), .ref (z + i2)]) (qh_Q G z M (qh_i (fun r E' => E = E' ∧ r = bI (allR (fun q => decide (f (cn q) = vs q)) n = true)))) 0 0 (fun q => z ≤ q) := by
  refine qh_metZ (cc := cX4_areSoBy) (maxL := 3) (by decide) rfl (Nat.le_of_ble_eq_true rfl) ?_
  intro pZ eZ sZ mZ aZ bZ tZ cZ RR QQ ls hx hb hml hown hts hRf hRl hH hK hl hret
  have hown : sZ.vm.findClass RX4 = some mZ.cls := hown
  have hl : lv_has ls 3 [(0, .ref (z + i)), (1, .ref (z + i2))] := hl
  have in_X4 : ∀ w ∈ wsX40, w ∈ wsX4_areSoBy := fun w h => List.mem_cons_of_mem _ (List.mem_append_left _ (List.mem_append_right _ h))
  have in_X3 : ∀ w ∈ wsX30, w ∈ wsX4_areSoBy := fun w h => List.mem_cons_of_mem _ (List.mem_append_right _ h)
  have f_9 : qh_F G sZ mZ aZ 9 4 0 := qh_F.of hts in_X4 hown hK rfl 0 (by decide) (by decide +kernel)
  have f_15 : qh_F G sZ mZ aZ 15 4 1 := qh_F.of hts in_X4 hown hK rfl 1 (by decide) (by decide +kernel)
  have f_29 : qh_F G sZ mZ aZ 29 3 1 := qh_F.of hts in_X3 hown hK rfl 1 (by decide) (by decide +kernel)
  have f_19 : qh_F G sZ mZ aZ 19 4 2 := qh_F.of hts in_X4 hown hK rfl 2 (by decide) (by decide +kernel)
  refine lv_iconst (v := 0) hx hb dX4_areSoBy_0 (by decide) ?_
  refine lv_istore_n (lv' := [(2, .int 0), (0, .ref (z + i)), (1, .ref (z + i2))]) hx hb dX4_areSoBy_1 rfl hl (by decide) rfl (fun ls hl => ?_)
  have L_2 : ∀ fu : Nat, ∀ q : Nat, (q ≤ n) → (allR (fun q => decide (f (cn q) = vs q)) q = true) → (n - q < fu) → ∀ (H : Heap) (locs : List Loc), qh_H G z M E sZ.heap H locs → ∀ ls : Array Slot, lv_has ls 3 [(0, .ref (z + i)), (1, .ref (z + i2)), (2, .int (nI q))] → W pZ l eZ RR sZ mZ aZ bZ tZ cZ H locs 0 0 QQ (F0 mZ 2 ls []) := by
    intro fu
    induction fu with
    | zero =>
      intro q hq hall hfuel
      exact absurd hfuel (by omega)
    | succ fu ih =>
      intro q hq hall hfuel H locs hH ls hl
      refine lv_iload_n hx hb dX4_areSoBy_2 rfl (lv_at hl 2 rfl) ?_
      refine lv_aload_n hx hb dX4_areSoBy_3 rfl (lv_at hl 0 rfl) ?_
      refine qh_get hx hb hH f_9 (by omega) b_i rfl dX4_areSoBy_4 ?_
      refine lv_icmp_ge (tgt := 52) hx hb dX4_areSoBy_7 (by decide) (fun c_7 => ?_) (fun c_7 => ?_)
      · have hk : q = n := by
          rcases Nat.lt_or_ge q n with w | w
          · exact absurd c_7 (nI_ge w (by omega))
          · omega
        subst hk
        refine lv_iconst (v := 1) hx hb dX4_areSoBy_52 (by decide) ?_
        exact hret dX4_areSoBy_53 hH (Or.inr rfl) (⟨rfl, bI_1 hall⟩)
      · have hk : q < n := by
          rcases Nat.lt_or_ge q n with w | w
          · exact w
          · exact absurd (nI_le w (by omega)) c_7
        have hcq := hcn q hk
        refine lv_aload_n hx hb dX4_areSoBy_10 rfl (lv_at hl 1 rfl) ?_
        refine lv_aload_n hx hb dX4_areSoBy_11 rfl (lv_at hl 0 rfl) ?_
        refine qh_get hx hb hH f_15 (by omega) b_i rfl dX4_areSoBy_12 ?_
        refine lv_iload_n hx hb dX4_areSoBy_15 rfl (lv_at hl 2 rfl) ?_
        refine qh_iald hx hb hK hH (by omega) b_j (j := q) (rfl) (by omega) (by omega) dX4_areSoBy_16 ?_
        refine qh_runV (As := [.int (rdC cn q)]) (rest := []) (C := RX3) ⟨hx, hb, hml, hown, hts⟩ hK hH (c_X3_has l G z M E i2 (by omega) (nI c) (.ref (z + j2)) u2 (rdC cn q) b_i2) (cwV 1 hts gX4_areSoBy_X3_has rfl rfl rfl (by decide +kernel) (by rw [hRf, hRl]; exact ⟨Nat.le_of_ble_eq_true rfl, Nat.le_of_ble_eq_true rfl⟩)) (by omega) b_i2 rfl rfl hl.1 rfl (Nat.le_of_ble_eq_true rfl) dX4_areSoBy_17 ⟨Nat.zero_le _, Nat.zero_le _⟩ (qh_kki fun r_17 E_1 H locs hpost hH => ?_)
        obtain ⟨rfl, rfl⟩ := hpost
        refine lv_if_eq (tgt := 44) hx hb dX4_areSoBy_20 (by decide) (fun c_20 => ?_) (fun c_20 => ?_)
        · have c_20 := bI_eq.mp c_20
          exact absurd (nI_has (hcn q hk) (by omega)) c_20
        · have c_20 := bI_ne.mp c_20
          refine lv_aload_n hx hb dX4_areSoBy_23 rfl (lv_at hl 1 rfl) ?_
          refine qh_get hx hb hH f_29 (by omega) b_i2 rfl dX4_areSoBy_24 ?_
          refine lv_aload_n hx hb dX4_areSoBy_27 rfl (lv_at hl 0 rfl) ?_
          refine qh_get hx hb hH f_15 (by omega) b_i rfl dX4_areSoBy_28 ?_
          refine lv_iload_n hx hb dX4_areSoBy_31 rfl (lv_at hl 2 rfl) ?_
          refine qh_iald hx hb hK hH (by omega) b_j (j := q) (rfl) (by omega) (by omega) dX4_areSoBy_32 ?_
          refine qh_lald hx hb hK hH (by omega) b_j2 (j := (cn q)) (rfl) (by omega) (by omega) dX4_areSoBy_33 ?_
          refine lv_aload_n hx hb dX4_areSoBy_34 rfl (lv_at hl 0 rfl) ?_
          refine qh_get hx hb hH f_19 (by omega) b_i rfl dX4_areSoBy_35 ?_
          refine lv_iload_n hx hb dX4_areSoBy_38 rfl (lv_at hl 2 rfl) ?_
          refine qh_lald hx hb hK hH (by omega) b_k (j := q) (rfl) (by omega) (by omega) dX4_areSoBy_39 ?_
          refine W.lcmp hx hb dX4_areSoBy_40 ?_
          refine lv_if_eq (tgt := 46) hx hb dX4_areSoBy_41 (by decide) (fun c_41 => ?_) (fun c_41 => ?_)
          · have c_41 := (lg_cmp_eq _ _).mp c_41
            refine lv_iinc (v := nI (q + 1)) (lv' := [(2, .int (nI (q + 1))), (0, .ref (z + i)), (1, .ref (z + i2))]) hx hb dX4_areSoBy_46 hl (k := 2) rfl (qn_inc q) (by decide) rfl (fun ls hl => ?_)
            refine lv_goto (tgt := 2) hx hb dX4_areSoBy_49 (by decide) ?_
            exact ih (q + 1) (by omega) (by rw [allR, hall, c_41]; simp) (by omega) _ _ hH ls (lv_sub hl [1, 2, 0] rfl)
          · have c_41 := (lg_cmp_ne _ _).mp c_41
            refine lv_iconst (v := 0) hx hb dX4_areSoBy_44 (by decide) ?_
            exact hret dX4_areSoBy_45 hH (Or.inl rfl) (⟨rfl, bI_0 (fun w => c_41 (of_decide_eq_true (allR_at w hk)))⟩)
  exact L_2 (n + 1) 0 (Nat.zero_le _) rfl (by omega) _ _ hH ls (lv_sub hl [1, 2, 0] rfl)
end
