-- ===== PART A: goes FIRST, ahead of the names: the tables' words, and 'selects' of the private methods out of them =====
/-- a private method of a class that the tables say can be made, by its rows of tables_1 -/
def lw_okq (q : MethodName × Nat) : Prop := (q.1.cls ≠ "java/lang/invoke/MethodHandle" ∧ q.1.cls ≠ "java/lang/invoke/VarHandle") ∧ Cond.instantiable q.1.cls q.2 ∈ tables_1 ∧ Cond.privateMethod q.1 ∈ tables_1 ∧ Cond.instanceMethod q.1 ∈ tables_1
theorem lw_p0 : lw_okq (⟨"FasterForTheRich", "refuse", "(I)I"⟩, 8) := ⟨⟨by decide +kernel, by decide +kernel⟩, List.mem_of_getElem? (i := 12) (by decide +kernel), List.mem_of_getElem? (i := 168) (by decide +kernel), List.mem_of_getElem? (i := 169) (by decide +kernel)⟩
theorem lw_p1 : lw_okq (⟨"FasterForTheRich$Letters", "comes", "(LFasterForTheRich$Town;I)Z"⟩, 2) := ⟨⟨by decide +kernel, by decide +kernel⟩, List.mem_of_getElem? (i := 94) (by decide +kernel), List.mem_of_getElem? (i := 201) (by decide +kernel), List.mem_of_getElem? (i := 202) (by decide +kernel)⟩
theorem lw_p2 : lw_okq (⟨"FasterForTheRich$Letters", "digit", "(I)I"⟩, 2) := ⟨⟨by decide +kernel, by decide +kernel⟩, List.mem_of_getElem? (i := 94) (by decide +kernel), List.mem_of_getElem? (i := 205) (by decide +kernel), List.mem_of_getElem? (i := 206) (by decide +kernel)⟩
theorem lw_p3 : lw_okq (⟨"FasterForTheRich$Letters", "twoDigits", "(I)I"⟩, 2) := ⟨⟨by decide +kernel, by decide +kernel⟩, List.mem_of_getElem? (i := 94) (by decide +kernel), List.mem_of_getElem? (i := 209) (by decide +kernel), List.mem_of_getElem? (i := 210) (by decide +kernel)⟩
theorem lw_p4 : lw_okq (⟨"FasterForTheRich$Town", "dusk", "()V"⟩, 11) := ⟨⟨by decide +kernel, by decide +kernel⟩, List.mem_of_getElem? (i := 20) (by decide +kernel), List.mem_of_getElem? (i := 257) (by decide +kernel), List.mem_of_getElem? (i := 258) (by decide +kernel)⟩
theorem lw_p5 : lw_okq (⟨"FasterForTheRich$Town", "dawn", "()V"⟩, 11) := ⟨⟨by decide +kernel, by decide +kernel⟩, List.mem_of_getElem? (i := 20) (by decide +kernel), List.mem_of_getElem? (i := 285) (by decide +kernel), List.mem_of_getElem? (i := 286) (by decide +kernel)⟩
theorem lw_p6 : lw_okq (⟨"FasterForTheRich", "whyPerson", "(I)I"⟩, 8) := ⟨⟨by decide +kernel, by decide +kernel⟩, List.mem_of_getElem? (i := 12) (by decide +kernel), List.mem_of_getElem? (i := 310) (by decide +kernel), List.mem_of_getElem? (i := 311) (by decide +kernel)⟩
theorem lw_p7 : lw_okq (⟨"FasterForTheRich", "whyTwo", "(II)I"⟩, 8) := ⟨⟨by decide +kernel, by decide +kernel⟩, List.mem_of_getElem? (i := 12) (by decide +kernel), List.mem_of_getElem? (i := 356) (by decide +kernel), List.mem_of_getElem? (i := 357) (by decide +kernel)⟩
theorem lw_p8 : lw_okq (⟨"FasterForTheRich", "whyHour", "(I)I"⟩, 8) := ⟨⟨by decide +kernel, by decide +kernel⟩, List.mem_of_getElem? (i := 12) (by decide +kernel), List.mem_of_getElem? (i := 373) (by decide +kernel), List.mem_of_getElem? (i := 374) (by decide +kernel)⟩
theorem lw_p9 : lw_okq (⟨"FasterForTheRich$Town", "sumOf", "([I)I"⟩, 11) := ⟨⟨by decide +kernel, by decide +kernel⟩, List.mem_of_getElem? (i := 20) (by decide +kernel), List.mem_of_getElem? (i := 404) (by decide +kernel), List.mem_of_getElem? (i := 405) (by decide +kernel)⟩
theorem lw_p10 : lw_okq (⟨"FasterForTheRich", "whoLastsLongest", "()I"⟩, 8) := ⟨⟨by decide +kernel, by decide +kernel⟩, List.mem_of_getElem? (i := 12) (by decide +kernel), List.mem_of_getElem? (i := 445) (by decide +kernel), List.mem_of_getElem? (i := 446) (by decide +kernel)⟩
theorem lw_p11 : lw_okq (⟨"FasterForTheRich", "hoursTillDark", "()I"⟩, 8) := ⟨⟨by decide +kernel, by decide +kernel⟩, List.mem_of_getElem? (i := 12) (by decide +kernel), List.mem_of_getElem? (i := 449) (by decide +kernel), List.mem_of_getElem? (i := 450) (by decide +kernel)⟩
theorem lw_p12 : lw_okq (⟨"FasterForTheRich", "whoGutters", "()I"⟩, 8) := ⟨⟨by decide +kernel, by decide +kernel⟩, List.mem_of_getElem? (i := 12) (by decide +kernel), List.mem_of_getElem? (i := 454) (by decide +kernel), List.mem_of_getElem? (i := 455) (by decide +kernel)⟩
theorem lw_p13 : lw_okq (⟨"FasterForTheRich", "lastsTogether", "(II)I"⟩, 8) := ⟨⟨by decide +kernel, by decide +kernel⟩, List.mem_of_getElem? (i := 12) (by decide +kernel), List.mem_of_getElem? (i := 467) (by decide +kernel), List.mem_of_getElem? (i := 468) (by decide +kernel)⟩
theorem lw_p14 : lw_okq (⟨"FasterForTheRich", "pagesTrusting", "(III)I"⟩, 8) := ⟨⟨by decide +kernel, by decide +kernel⟩, List.mem_of_getElem? (i := 12) (by decide +kernel), List.mem_of_getElem? (i := 501) (by decide +kernel), List.mem_of_getElem? (i := 502) (by decide +kernel)⟩
theorem lw_p15 : lw_okq (⟨"FasterForTheRich", "nightTrusting", "(III)V"⟩, 8) := ⟨⟨by decide +kernel, by decide +kernel⟩, List.mem_of_getElem? (i := 12) (by decide +kernel), List.mem_of_getElem? (i := 505) (by decide +kernel), List.mem_of_getElem? (i := 506) (by decide +kernel)⟩
def lw_privs_1 : List (MethodName × Nat) := [(⟨"FasterForTheRich", "refuse", "(I)I"⟩, 8), (⟨"FasterForTheRich$Letters", "comes", "(LFasterForTheRich$Town;I)Z"⟩, 2), (⟨"FasterForTheRich$Letters", "digit", "(I)I"⟩, 2), (⟨"FasterForTheRich$Letters", "twoDigits", "(I)I"⟩, 2), (⟨"FasterForTheRich$Town", "dusk", "()V"⟩, 11), (⟨"FasterForTheRich$Town", "dawn", "()V"⟩, 11), (⟨"FasterForTheRich", "whyPerson", "(I)I"⟩, 8), (⟨"FasterForTheRich", "whyTwo", "(II)I"⟩, 8), (⟨"FasterForTheRich", "whyHour", "(I)I"⟩, 8), (⟨"FasterForTheRich$Town", "sumOf", "([I)I"⟩, 11), (⟨"FasterForTheRich", "whoLastsLongest", "()I"⟩, 8), (⟨"FasterForTheRich", "hoursTillDark", "()I"⟩, 8), (⟨"FasterForTheRich", "whoGutters", "()I"⟩, 8), (⟨"FasterForTheRich", "lastsTogether", "(II)I"⟩, 8), (⟨"FasterForTheRich", "pagesTrusting", "(III)I"⟩, 8), (⟨"FasterForTheRich", "nightTrusting", "(III)V"⟩, 8)]
theorem lw_r1 : ∀ q ∈ lw_privs_1, lw_okq q := List.forall_mem_cons.mpr ⟨lw_p0, List.forall_mem_cons.mpr ⟨lw_p1, List.forall_mem_cons.mpr ⟨lw_p2, List.forall_mem_cons.mpr ⟨lw_p3, List.forall_mem_cons.mpr ⟨lw_p4, List.forall_mem_cons.mpr ⟨lw_p5, List.forall_mem_cons.mpr ⟨lw_p6, List.forall_mem_cons.mpr ⟨lw_p7, List.forall_mem_cons.mpr ⟨lw_p8, List.forall_mem_cons.mpr ⟨lw_p9, List.forall_mem_cons.mpr ⟨lw_p10, List.forall_mem_cons.mpr ⟨lw_p11, List.forall_mem_cons.mpr ⟨lw_p12, List.forall_mem_cons.mpr ⟨lw_p13, List.forall_mem_cons.mpr ⟨lw_p14, List.forall_mem_cons.mpr ⟨lw_p15, fun _ h => absurd h List.not_mem_nil⟩⟩⟩⟩⟩⟩⟩⟩⟩⟩⟩⟩⟩⟩⟩⟩
theorem lw_p16 : lw_okq (⟨"FasterForTheRich", "losesNothing", "(III)Z"⟩, 8) := ⟨⟨by decide +kernel, by decide +kernel⟩, List.mem_of_getElem? (i := 12) (by decide +kernel), List.mem_of_getElem? (i := 513) (by decide +kernel), List.mem_of_getElem? (i := 514) (by decide +kernel)⟩
theorem lw_p17 : lw_okq (⟨"FasterForTheRich", "howManyHoldsFit", "(I)I"⟩, 8) := ⟨⟨by decide +kernel, by decide +kernel⟩, List.mem_of_getElem? (i := 12) (by decide +kernel), List.mem_of_getElem? (i := 543) (by decide +kernel), List.mem_of_getElem? (i := 544) (by decide +kernel)⟩
theorem lw_p18 : lw_okq (⟨"FasterForTheRich", "holdsFit", "(II)Z"⟩, 8) := ⟨⟨by decide +kernel, by decide +kernel⟩, List.mem_of_getElem? (i := 12) (by decide +kernel), List.mem_of_getElem? (i := 547) (by decide +kernel), List.mem_of_getElem? (i := 548) (by decide +kernel)⟩
theorem lw_p19 : lw_okq (⟨"FasterForTheRich", "leastHoldsFit", "(I)I"⟩, 8) := ⟨⟨by decide +kernel, by decide +kernel⟩, List.mem_of_getElem? (i := 12) (by decide +kernel), List.mem_of_getElem? (i := 557) (by decide +kernel), List.mem_of_getElem? (i := 558) (by decide +kernel)⟩
theorem lw_p20 : lw_okq (⟨"FasterForTheRich", "kindsFit", "(I)I"⟩, 8) := ⟨⟨by decide +kernel, by decide +kernel⟩, List.mem_of_getElem? (i := 12) (by decide +kernel), List.mem_of_getElem? (i := 561) (by decide +kernel), List.mem_of_getElem? (i := 562) (by decide +kernel)⟩
theorem lw_p21 : lw_okq (⟨"FasterForTheRich", "figuresFit", "(I)I"⟩, 8) := ⟨⟨by decide +kernel, by decide +kernel⟩, List.mem_of_getElem? (i := 12) (by decide +kernel), List.mem_of_getElem? (i := 566) (by decide +kernel), List.mem_of_getElem? (i := 567) (by decide +kernel)⟩
theorem lw_p22 : lw_okq (⟨"FasterForTheRich", "keepsTo", "(IIII)Z"⟩, 8) := ⟨⟨by decide +kernel, by decide +kernel⟩, List.mem_of_getElem? (i := 12) (by decide +kernel), List.mem_of_getElem? (i := 579) (by decide +kernel), List.mem_of_getElem? (i := 580) (by decide +kernel)⟩
theorem lw_p23 : lw_okq (⟨"FasterForTheRich", "lastsHalving", "(IIII)I"⟩, 8) := ⟨⟨by decide +kernel, by decide +kernel⟩, List.mem_of_getElem? (i := 12) (by decide +kernel), List.mem_of_getElem? (i := 583) (by decide +kernel), List.mem_of_getElem? (i := 584) (by decide +kernel)⟩
theorem lw_p24 : lw_okq (⟨"FasterForTheRich", "waysWithLight", "(III)J"⟩, 8) := ⟨⟨by decide +kernel, by decide +kernel⟩, List.mem_of_getElem? (i := 12) (by decide +kernel), List.mem_of_getElem? (i := 592) (by decide +kernel), List.mem_of_getElem? (i := 593) (by decide +kernel)⟩
theorem lw_p25 : lw_okq (⟨"FasterForTheRich", "isFurther", "(III)Z"⟩, 8) := ⟨⟨by decide +kernel, by decide +kernel⟩, List.mem_of_getElem? (i := 12) (by decide +kernel), List.mem_of_getElem? (i := 606) (by decide +kernel), List.mem_of_getElem? (i := 607) (by decide +kernel)⟩
theorem lw_p26 : lw_okq (⟨"FasterForTheRich", "pagesByCandle", "(III)I"⟩, 8) := ⟨⟨by decide +kernel, by decide +kernel⟩, List.mem_of_getElem? (i := 12) (by decide +kernel), List.mem_of_getElem? (i := 638) (by decide +kernel), List.mem_of_getElem? (i := 639) (by decide +kernel)⟩
theorem lw_p27 : lw_okq (⟨"FasterForTheRichModel", "refuse", "(I)I"⟩, 33) := ⟨⟨by decide +kernel, by decide +kernel⟩, List.mem_of_getElem? (i := 704) (by decide +kernel), List.mem_of_getElem? (i := 814) (by decide +kernel), List.mem_of_getElem? (i := 815) (by decide +kernel)⟩
theorem lw_p28 : lw_okq (⟨"FasterForTheRichModel", "readStatement", "()V"⟩, 33) := ⟨⟨by decide +kernel, by decide +kernel⟩, List.mem_of_getElem? (i := 704) (by decide +kernel), List.mem_of_getElem? (i := 822) (by decide +kernel), List.mem_of_getElem? (i := 823) (by decide +kernel)⟩
theorem lw_p29 : lw_okq (⟨"FasterForTheRichModel", "here", "()I"⟩, 33) := ⟨⟨by decide +kernel, by decide +kernel⟩, List.mem_of_getElem? (i := 704) (by decide +kernel), List.mem_of_getElem? (i := 826) (by decide +kernel), List.mem_of_getElem? (i := 827) (by decide +kernel)⟩
theorem lw_p30 : lw_okq (⟨"FasterForTheRichModel", "readNumbers", "(II)V"⟩, 33) := ⟨⟨by decide +kernel, by decide +kernel⟩, List.mem_of_getElem? (i := 704) (by decide +kernel), List.mem_of_getElem? (i := 833) (by decide +kernel), List.mem_of_getElem? (i := 834) (by decide +kernel)⟩
theorem lw_p31 : lw_okq (⟨"FasterForTheRichModel", "readDigits", "(I)I"⟩, 33) := ⟨⟨by decide +kernel, by decide +kernel⟩, List.mem_of_getElem? (i := 704) (by decide +kernel), List.mem_of_getElem? (i := 837) (by decide +kernel), List.mem_of_getElem? (i := 838) (by decide +kernel)⟩
def lw_privs_2 : List (MethodName × Nat) := [(⟨"FasterForTheRich", "losesNothing", "(III)Z"⟩, 8), (⟨"FasterForTheRich", "howManyHoldsFit", "(I)I"⟩, 8), (⟨"FasterForTheRich", "holdsFit", "(II)Z"⟩, 8), (⟨"FasterForTheRich", "leastHoldsFit", "(I)I"⟩, 8), (⟨"FasterForTheRich", "kindsFit", "(I)I"⟩, 8), (⟨"FasterForTheRich", "figuresFit", "(I)I"⟩, 8), (⟨"FasterForTheRich", "keepsTo", "(IIII)Z"⟩, 8), (⟨"FasterForTheRich", "lastsHalving", "(IIII)I"⟩, 8), (⟨"FasterForTheRich", "waysWithLight", "(III)J"⟩, 8), (⟨"FasterForTheRich", "isFurther", "(III)Z"⟩, 8), (⟨"FasterForTheRich", "pagesByCandle", "(III)I"⟩, 8), (⟨"FasterForTheRichModel", "refuse", "(I)I"⟩, 33), (⟨"FasterForTheRichModel", "readStatement", "()V"⟩, 33), (⟨"FasterForTheRichModel", "here", "()I"⟩, 33), (⟨"FasterForTheRichModel", "readNumbers", "(II)V"⟩, 33), (⟨"FasterForTheRichModel", "readDigits", "(I)I"⟩, 33)]
theorem lw_r2 : ∀ q ∈ lw_privs_2, lw_okq q := List.forall_mem_cons.mpr ⟨lw_p16, List.forall_mem_cons.mpr ⟨lw_p17, List.forall_mem_cons.mpr ⟨lw_p18, List.forall_mem_cons.mpr ⟨lw_p19, List.forall_mem_cons.mpr ⟨lw_p20, List.forall_mem_cons.mpr ⟨lw_p21, List.forall_mem_cons.mpr ⟨lw_p22, List.forall_mem_cons.mpr ⟨lw_p23, List.forall_mem_cons.mpr ⟨lw_p24, List.forall_mem_cons.mpr ⟨lw_p25, List.forall_mem_cons.mpr ⟨lw_p26, List.forall_mem_cons.mpr ⟨lw_p27, List.forall_mem_cons.mpr ⟨lw_p28, List.forall_mem_cons.mpr ⟨lw_p29, List.forall_mem_cons.mpr ⟨lw_p30, List.forall_mem_cons.mpr ⟨lw_p31, fun _ h => absurd h List.not_mem_nil⟩⟩⟩⟩⟩⟩⟩⟩⟩⟩⟩⟩⟩⟩⟩⟩
theorem lw_p32 : lw_okq (⟨"FasterForTheRichModel", "think", "()V"⟩, 33) := ⟨⟨by decide +kernel, by decide +kernel⟩, List.mem_of_getElem? (i := 704) (by decide +kernel), List.mem_of_getElem? (i := 846) (by decide +kernel), List.mem_of_getElem? (i := 847) (by decide +kernel)⟩
theorem lw_p33 : lw_okq (⟨"FasterForTheRichModel", "carryAll", "([IZ)V"⟩, 33) := ⟨⟨by decide +kernel, by decide +kernel⟩, List.mem_of_getElem? (i := 704) (by decide +kernel), List.mem_of_getElem? (i := 850) (by decide +kernel), List.mem_of_getElem? (i := 851) (by decide +kernel)⟩
theorem lw_p34 : lw_okq (⟨"FasterForTheRichModel", "carry", "(I)I"⟩, 33) := ⟨⟨by decide +kernel, by decide +kernel⟩, List.mem_of_getElem? (i := 704) (by decide +kernel), List.mem_of_getElem? (i := 854) (by decide +kernel), List.mem_of_getElem? (i := 855) (by decide +kernel)⟩
theorem lw_p35 : lw_okq (⟨"FasterForTheRichModel", "comesTold", "(I)Z"⟩, 33) := ⟨⟨by decide +kernel, by decide +kernel⟩, List.mem_of_getElem? (i := 704) (by decide +kernel), List.mem_of_getElem? (i := 858) (by decide +kernel), List.mem_of_getElem? (i := 859) (by decide +kernel)⟩
theorem lw_p36 : lw_okq (⟨"FasterForTheRichModel", "oneComes", "(III)V"⟩, 33) := ⟨⟨by decide +kernel, by decide +kernel⟩, List.mem_of_getElem? (i := 704) (by decide +kernel), List.mem_of_getElem? (i := 862) (by decide +kernel), List.mem_of_getElem? (i := 863) (by decide +kernel)⟩
theorem lw_p37 : lw_okq (⟨"FasterForTheRichModel", "isOne", "(I)Z"⟩, 33) := ⟨⟨by decide +kernel, by decide +kernel⟩, List.mem_of_getElem? (i := 704) (by decide +kernel), List.mem_of_getElem? (i := 866) (by decide +kernel), List.mem_of_getElem? (i := 867) (by decide +kernel)⟩
theorem lw_p38 : lw_okq (⟨"FasterForTheRichModel", "setCandle", "(II)V"⟩, 33) := ⟨⟨by decide +kernel, by decide +kernel⟩, List.mem_of_getElem? (i := 704) (by decide +kernel), List.mem_of_getElem? (i := 870) (by decide +kernel), List.mem_of_getElem? (i := 871) (by decide +kernel)⟩
theorem lw_p39 : lw_okq (⟨"FasterForTheRichModel", "areTwo", "(II)Z"⟩, 33) := ⟨⟨by decide +kernel, by decide +kernel⟩, List.mem_of_getElem? (i := 704) (by decide +kernel), List.mem_of_getElem? (i := 874) (by decide +kernel), List.mem_of_getElem? (i := 875) (by decide +kernel)⟩
theorem lw_p40 : lw_okq (⟨"FasterForTheRichModel", "goNight", "(I)V"⟩, 33) := ⟨⟨by decide +kernel, by decide +kernel⟩, List.mem_of_getElem? (i := 704) (by decide +kernel), List.mem_of_getElem? (i := 879) (by decide +kernel), List.mem_of_getElem? (i := 880) (by decide +kernel)⟩
theorem lw_p41 : lw_okq (⟨"FasterForTheRichModel", "goHours", "(I)V"⟩, 33) := ⟨⟨by decide +kernel, by decide +kernel⟩, List.mem_of_getElem? (i := 704) (by decide +kernel), List.mem_of_getElem? (i := 886) (by decide +kernel), List.mem_of_getElem? (i := 887) (by decide +kernel)⟩
theorem lw_p42 : lw_okq (⟨"FasterForTheRichModel", "hourOn", "()V"⟩, 33) := ⟨⟨by decide +kernel, by decide +kernel⟩, List.mem_of_getElem? (i := 704) (by decide +kernel), List.mem_of_getElem? (i := 890) (by decide +kernel), List.mem_of_getElem? (i := 891) (by decide +kernel)⟩
theorem lw_p43 : lw_okq (⟨"FasterForTheRichModel", "burnsOf", "(I)I"⟩, 33) := ⟨⟨by decide +kernel, by decide +kernel⟩, List.mem_of_getElem? (i := 704) (by decide +kernel), List.mem_of_getElem? (i := 894) (by decide +kernel), List.mem_of_getElem? (i := 895) (by decide +kernel)⟩
theorem lw_p44 : lw_okq (⟨"FasterForTheRichModel", "wealthOf", "(I)I"⟩, 33) := ⟨⟨by decide +kernel, by decide +kernel⟩, List.mem_of_getElem? (i := 704) (by decide +kernel), List.mem_of_getElem? (i := 898) (by decide +kernel), List.mem_of_getElem? (i := 899) (by decide +kernel)⟩
theorem lw_p45 : lw_okq (⟨"FasterForTheRichModel", "isHonest", "(I)Z"⟩, 33) := ⟨⟨by decide +kernel, by decide +kernel⟩, List.mem_of_getElem? (i := 704) (by decide +kernel), List.mem_of_getElem? (i := 902) (by decide +kernel), List.mem_of_getElem? (i := 903) (by decide +kernel)⟩
theorem lw_p46 : lw_okq (⟨"FasterForTheRichModel", "again", "()V"⟩, 33) := ⟨⟨by decide +kernel, by decide +kernel⟩, List.mem_of_getElem? (i := 704) (by decide +kernel), List.mem_of_getElem? (i := 906) (by decide +kernel), List.mem_of_getElem? (i := 907) (by decide +kernel)⟩
theorem lw_p47 : lw_okq (⟨"FasterForTheRichModel", "keepTurn", "()V"⟩, 33) := ⟨⟨by decide +kernel, by decide +kernel⟩, List.mem_of_getElem? (i := 704) (by decide +kernel), List.mem_of_getElem? (i := 942) (by decide +kernel), List.mem_of_getElem? (i := 943) (by decide +kernel)⟩
def lw_privs_3 : List (MethodName × Nat) := [(⟨"FasterForTheRichModel", "think", "()V"⟩, 33), (⟨"FasterForTheRichModel", "carryAll", "([IZ)V"⟩, 33), (⟨"FasterForTheRichModel", "carry", "(I)I"⟩, 33), (⟨"FasterForTheRichModel", "comesTold", "(I)Z"⟩, 33), (⟨"FasterForTheRichModel", "oneComes", "(III)V"⟩, 33), (⟨"FasterForTheRichModel", "isOne", "(I)Z"⟩, 33), (⟨"FasterForTheRichModel", "setCandle", "(II)V"⟩, 33), (⟨"FasterForTheRichModel", "areTwo", "(II)Z"⟩, 33), (⟨"FasterForTheRichModel", "goNight", "(I)V"⟩, 33), (⟨"FasterForTheRichModel", "goHours", "(I)V"⟩, 33), (⟨"FasterForTheRichModel", "hourOn", "()V"⟩, 33), (⟨"FasterForTheRichModel", "burnsOf", "(I)I"⟩, 33), (⟨"FasterForTheRichModel", "wealthOf", "(I)I"⟩, 33), (⟨"FasterForTheRichModel", "isHonest", "(I)Z"⟩, 33), (⟨"FasterForTheRichModel", "again", "()V"⟩, 33), (⟨"FasterForTheRichModel", "keepTurn", "()V"⟩, 33)]
theorem lw_r3 : ∀ q ∈ lw_privs_3, lw_okq q := List.forall_mem_cons.mpr ⟨lw_p32, List.forall_mem_cons.mpr ⟨lw_p33, List.forall_mem_cons.mpr ⟨lw_p34, List.forall_mem_cons.mpr ⟨lw_p35, List.forall_mem_cons.mpr ⟨lw_p36, List.forall_mem_cons.mpr ⟨lw_p37, List.forall_mem_cons.mpr ⟨lw_p38, List.forall_mem_cons.mpr ⟨lw_p39, List.forall_mem_cons.mpr ⟨lw_p40, List.forall_mem_cons.mpr ⟨lw_p41, List.forall_mem_cons.mpr ⟨lw_p42, List.forall_mem_cons.mpr ⟨lw_p43, List.forall_mem_cons.mpr ⟨lw_p44, List.forall_mem_cons.mpr ⟨lw_p45, List.forall_mem_cons.mpr ⟨lw_p46, List.forall_mem_cons.mpr ⟨lw_p47, fun _ h => absurd h List.not_mem_nil⟩⟩⟩⟩⟩⟩⟩⟩⟩⟩⟩⟩⟩⟩⟩⟩
theorem lw_p48 : lw_okq (⟨"FasterForTheRichModel", "litMany", "()I"⟩, 33) := ⟨⟨by decide +kernel, by decide +kernel⟩, List.mem_of_getElem? (i := 704) (by decide +kernel), List.mem_of_getElem? (i := 962) (by decide +kernel), List.mem_of_getElem? (i := 963) (by decide +kernel)⟩
theorem lw_p49 : lw_okq (⟨"FasterForTheRichModel", "allPages", "()I"⟩, 33) := ⟨⟨by decide +kernel, by decide +kernel⟩, List.mem_of_getElem? (i := 704) (by decide +kernel), List.mem_of_getElem? (i := 970) (by decide +kernel), List.mem_of_getElem? (i := 971) (by decide +kernel)⟩
theorem lw_p50 : lw_okq (⟨"FasterForTheRichModel", "lastsOf", "(I)I"⟩, 33) := ⟨⟨by decide +kernel, by decide +kernel⟩, List.mem_of_getElem? (i := 704) (by decide +kernel), List.mem_of_getElem? (i := 986) (by decide +kernel), List.mem_of_getElem? (i := 987) (by decide +kernel)⟩
theorem lw_p51 : lw_okq (⟨"FasterForTheRichModel", "darkIn", "()I"⟩, 33) := ⟨⟨by decide +kernel, by decide +kernel⟩, List.mem_of_getElem? (i := 704) (by decide +kernel), List.mem_of_getElem? (i := 995) (by decide +kernel), List.mem_of_getElem? (i := 996) (by decide +kernel)⟩
theorem lw_p52 : lw_okq (⟨"FasterForTheRichModel", "longestOne", "()I"⟩, 33) := ⟨⟨by decide +kernel, by decide +kernel⟩, List.mem_of_getElem? (i := 704) (by decide +kernel), List.mem_of_getElem? (i := 999) (by decide +kernel), List.mem_of_getElem? (i := 1000) (by decide +kernel)⟩
theorem lw_p53 : lw_okq (⟨"FasterForTheRichModel", "lastsBy", "(IIIZ)I"⟩, 33) := ⟨⟨by decide +kernel, by decide +kernel⟩, List.mem_of_getElem? (i := 704) (by decide +kernel), List.mem_of_getElem? (i := 1011) (by decide +kernel), List.mem_of_getElem? (i := 1012) (by decide +kernel)⟩
theorem lw_p54 : lw_okq (⟨"FasterForTheRichModel", "allHolds", "()I"⟩, 33) := ⟨⟨by decide +kernel, by decide +kernel⟩, List.mem_of_getElem? (i := 704) (by decide +kernel), List.mem_of_getElem? (i := 1032) (by decide +kernel), List.mem_of_getElem? (i := 1033) (by decide +kernel)⟩
theorem lw_p55 : lw_okq (⟨"FasterForTheRichModel", "readsWith", "(III)I"⟩, 33) := ⟨⟨by decide +kernel, by decide +kernel⟩, List.mem_of_getElem? (i := 704) (by decide +kernel), List.mem_of_getElem? (i := 1040) (by decide +kernel), List.mem_of_getElem? (i := 1041) (by decide +kernel)⟩
theorem lw_p56 : lw_okq (⟨"FasterForTheRichModel", "isRow", "(I)Z"⟩, 33) := ⟨⟨by decide +kernel, by decide +kernel⟩, List.mem_of_getElem? (i := 704) (by decide +kernel), List.mem_of_getElem? (i := 1064) (by decide +kernel), List.mem_of_getElem? (i := 1065) (by decide +kernel)⟩
theorem lw_p57 : lw_okq (⟨"FasterForTheRichModel", "lastsIn", "(IIIII)I"⟩, 33) := ⟨⟨by decide +kernel, by decide +kernel⟩, List.mem_of_getElem? (i := 704) (by decide +kernel), List.mem_of_getElem? (i := 1076) (by decide +kernel), List.mem_of_getElem? (i := 1077) (by decide +kernel)⟩
theorem lw_p58 : lw_okq (⟨"FasterForTheRichModel", "allCandles", "()I"⟩, 33) := ⟨⟨by decide +kernel, by decide +kernel⟩, List.mem_of_getElem? (i := 704) (by decide +kernel), List.mem_of_getElem? (i := 1098) (by decide +kernel), List.mem_of_getElem? (i := 1099) (by decide +kernel)⟩
theorem lw_p59 : lw_okq (⟨"FasterForTheRichModel", "allWealth", "()I"⟩, 33) := ⟨⟨by decide +kernel, by decide +kernel⟩, List.mem_of_getElem? (i := 704) (by decide +kernel), List.mem_of_getElem? (i := 1110) (by decide +kernel), List.mem_of_getElem? (i := 1111) (by decide +kernel)⟩
theorem lw_p60 : lw_okq (⟨"FasterForTheRichModel", "drawBelow", "(I)I"⟩, 33) := ⟨⟨by decide +kernel, by decide +kernel⟩, List.mem_of_getElem? (i := 704) (by decide +kernel), List.mem_of_getElem? (i := 1158) (by decide +kernel), List.mem_of_getElem? (i := 1159) (by decide +kernel)⟩
theorem lw_p61 : lw_okq (⟨"FasterForTheRichModel", "litBits", "()I"⟩, 33) := ⟨⟨by decide +kernel, by decide +kernel⟩, List.mem_of_getElem? (i := 704) (by decide +kernel), List.mem_of_getElem? (i := 1169) (by decide +kernel), List.mem_of_getElem? (i := 1170) (by decide +kernel)⟩
def lw_privs_4 : List (MethodName × Nat) := [(⟨"FasterForTheRichModel", "litMany", "()I"⟩, 33), (⟨"FasterForTheRichModel", "allPages", "()I"⟩, 33), (⟨"FasterForTheRichModel", "lastsOf", "(I)I"⟩, 33), (⟨"FasterForTheRichModel", "darkIn", "()I"⟩, 33), (⟨"FasterForTheRichModel", "longestOne", "()I"⟩, 33), (⟨"FasterForTheRichModel", "lastsBy", "(IIIZ)I"⟩, 33), (⟨"FasterForTheRichModel", "allHolds", "()I"⟩, 33), (⟨"FasterForTheRichModel", "readsWith", "(III)I"⟩, 33), (⟨"FasterForTheRichModel", "isRow", "(I)Z"⟩, 33), (⟨"FasterForTheRichModel", "lastsIn", "(IIIII)I"⟩, 33), (⟨"FasterForTheRichModel", "allCandles", "()I"⟩, 33), (⟨"FasterForTheRichModel", "allWealth", "()I"⟩, 33), (⟨"FasterForTheRichModel", "drawBelow", "(I)I"⟩, 33), (⟨"FasterForTheRichModel", "litBits", "()I"⟩, 33)]
theorem lw_r4 : ∀ q ∈ lw_privs_4, lw_okq q := List.forall_mem_cons.mpr ⟨lw_p48, List.forall_mem_cons.mpr ⟨lw_p49, List.forall_mem_cons.mpr ⟨lw_p50, List.forall_mem_cons.mpr ⟨lw_p51, List.forall_mem_cons.mpr ⟨lw_p52, List.forall_mem_cons.mpr ⟨lw_p53, List.forall_mem_cons.mpr ⟨lw_p54, List.forall_mem_cons.mpr ⟨lw_p55, List.forall_mem_cons.mpr ⟨lw_p56, List.forall_mem_cons.mpr ⟨lw_p57, List.forall_mem_cons.mpr ⟨lw_p58, List.forall_mem_cons.mpr ⟨lw_p59, List.forall_mem_cons.mpr ⟨lw_p60, List.forall_mem_cons.mpr ⟨lw_p61, fun _ h => absurd h List.not_mem_nil⟩⟩⟩⟩⟩⟩⟩⟩⟩⟩⟩⟩⟩⟩
def lw_privs : List (MethodName × Nat) := lw_privs_1 ++ (lw_privs_2 ++ (lw_privs_3 ++ (lw_privs_4)))
def lw_tbl : List Cond := k2_sels lw_privs ++ tables_1
theorem lw_privs_ok : ∀ q ∈ lw_privs, lw_okq q := by
  show ∀ q ∈ lw_privs_1 ++ (lw_privs_2 ++ (lw_privs_3 ++ (lw_privs_4))), lw_okq q
  exact List.forall_mem_append.mpr ⟨lw_r1, List.forall_mem_append.mpr ⟨lw_r2, List.forall_mem_append.mpr ⟨lw_r3, lw_r4⟩⟩⟩

def RX0 : String := "FasterForTheRich$History"
def TX0 : u_T := fun k => match k with
  | 0 => ("FasterForTheRich$History", "kept", "[LFasterForTheRich$Town;", true)
  | 1 => ("FasterForTheRich$History", "oldest", "I", false)
  | _ => ("FasterForTheRich$History", "size", "I", false)
def tyX0 : Nat → FieldType := fun k => match k with
  | 0 => .array (.object "FasterForTheRich$Town")
  | 1 => .int
  | _ => .int
abbrev wsX00 : List Cond := u_ws RX0 TX0 3
theorem nmX0 : ∀ a, a < 3 → ∀ b, b < 3 → a ≠ b → (TX0 a).2.1 ≠ (TX0 b).2.1 := by decide +kernel
theorem tyX0_ok : ∀ k, k < 3 → parseFieldDescriptor (TX0 k).2.2.1 = some (tyX0 k) := by decide +kernel
abbrev cX0_init : ByteArray := prog_2_method_1_code
def yX0_init : MethodName := ⟨RX0, "<init>", "()V"⟩
abbrev cX0_size : ByteArray := prog_2_method_2_code
def yX0_size : MethodName := ⟨RX0, "size", "()I"⟩
abbrev cX0_forget : ByteArray := prog_2_method_3_code
def yX0_forget : MethodName := ⟨RX0, "forget", "()V"⟩
abbrev cX0_keep : ByteArray := prog_2_method_4_code
def yX0_keep : MethodName := ⟨RX0, "keep", "(LFasterForTheRich$Town;)V"⟩
abbrev cX0_takeBack : ByteArray := prog_2_method_5_code
def yX0_takeBack : MethodName := ⟨RX0, "takeBack", "(LFasterForTheRich$Town;)V"⟩
def RX1 : String := "FasterForTheRich$Kinds"
def TX1 : u_T := fun k => match k with
  | _ => ("", "", "", false)
def tyX1 : Nat → FieldType := fun k => match k with
  | _ => .int
abbrev wsX10 : List Cond := u_ws RX1 TX1 0
theorem nmX1 : ∀ a, a < 0 → ∀ b, b < 0 → a ≠ b → (TX1 a).2.1 ≠ (TX1 b).2.1 := by decide +kernel
theorem tyX1_ok : ∀ k, k < 0 → parseFieldDescriptor (TX1 k).2.2.1 = some (tyX1 k) := by decide +kernel
abbrev cX1_wealth : ByteArray := prog_3_method_2_code
def yX1_wealth : MethodName := ⟨RX1, "wealth", "(IIII)I"⟩
abbrev cX1_burns : ByteArray := prog_3_method_3_code
def yX1_burns : MethodName := ⟨RX1, "burns", "(II)I"⟩
abbrev cX1_honest : ByteArray := prog_3_method_4_code
def yX1_honest : MethodName := ⟨RX1, "honest", "(II)Z"⟩
def RX2 : String := "FasterForTheRich$Letters"
def TX2 : u_T := fun k => match k with
  | 0 => ("FasterForTheRich$Numbers", "numbers", "[I", true)
  | _ => ("FasterForTheRich$Numbers", "size", "I", false)
def tyX2 : Nat → FieldType := fun k => match k with
  | 0 => .array .int
  | _ => .int
abbrev wsX20 : List Cond := u_ws RX2 TX2 2
theorem nmX2 : ∀ a, a < 2 → ∀ b, b < 2 → a ≠ b → (TX2 a).2.1 ≠ (TX2 b).2.1 := by decide +kernel
theorem tyX2_ok : ∀ k, k < 2 → parseFieldDescriptor (TX2 k).2.2.1 = some (tyX2 k) := by decide +kernel
abbrev cX2_init : ByteArray := prog_4_method_1_code
def yX2_init : MethodName := ⟨RX2, "<init>", "()V"⟩
abbrev cX2_faultOfForm : ByteArray := prog_4_method_2_code
def yX2_faultOfForm : MethodName := ⟨RX2, "faultOfForm", "()I"⟩
abbrev cX2_dueBehind : ByteArray := prog_4_method_3_code
def yX2_dueBehind : MethodName := ⟨RX2, "dueBehind", "(II)I"⟩
abbrev cX2_digitsOf : ByteArray := prog_4_method_4_code
def yX2_digitsOf : MethodName := ⟨RX2, "digitsOf", "(I)I"⟩
abbrev cX2_tellTo : ByteArray := prog_4_method_5_code
def yX2_tellTo : MethodName := ⟨RX2, "tellTo", "(LFasterForTheRich$Town;)I"⟩
abbrev cX2_comes : ByteArray := prog_4_method_6_code
def yX2_comes : MethodName := ⟨RX2, "comes", "(LFasterForTheRich$Town;I)Z"⟩
abbrev cX2_comesPerson : ByteArray := prog_4_method_7_code
def yX2_comesPerson : MethodName := ⟨RX2, "comesPerson", "(LFasterForTheRich$Town;III)Z"⟩
abbrev cX2_comesHides : ByteArray := prog_4_method_8_code
def yX2_comesHides : MethodName := ⟨RX2, "comesHides", "(LFasterForTheRich$Town;II)Z"⟩
abbrev cX2_comesCandle : ByteArray := prog_4_method_9_code
def yX2_comesCandle : MethodName := ⟨RX2, "comesCandle", "(LFasterForTheRich$Town;II)Z"⟩
abbrev cX2_comesCousin : ByteArray := prog_4_method_10_code
def yX2_comesCousin : MethodName := ⟨RX2, "comesCousin", "(LFasterForTheRich$Town;II)Z"⟩
abbrev cX2_comesLight : ByteArray := prog_4_method_11_code
def yX2_comesLight : MethodName := ⟨RX2, "comesLight", "(LFasterForTheRich$Town;I)Z"⟩
abbrev cX2_digit : ByteArray := prog_4_method_12_code
def yX2_digit : MethodName := ⟨RX2, "digit", "(I)I"⟩
abbrev cX2_twoDigits : ByteArray := prog_4_method_13_code
def yX2_twoDigits : MethodName := ⟨RX2, "twoDigits", "(I)I"⟩
def RX3 : String := "FasterForTheRich$Numbers"
def TX3 : u_T := fun k => match k with
  | _ => ("", "", "", false)
def tyX3 : Nat → FieldType := fun k => match k with
  | _ => .int
abbrev wsX30 : List Cond := u_ws RX3 TX3 0
theorem nmX3 : ∀ a, a < 0 → ∀ b, b < 0 → a ≠ b → (TX3 a).2.1 ≠ (TX3 b).2.1 := by decide +kernel
theorem tyX3_ok : ∀ k, k < 0 → parseFieldDescriptor (TX3 k).2.2.1 = some (tyX3 k) := by decide +kernel
abbrev cX3_init : ByteArray := prog_5_method_1_code
def yX3_init : MethodName := ⟨RX3, "<init>", "(I)V"⟩
abbrev cX3_size : ByteArray := prog_5_method_2_code
def yX3_size : MethodName := ⟨RX3, "size", "()I"⟩
abbrev cX3_isFull : ByteArray := prog_5_method_3_code
def yX3_isFull : MethodName := ⟨RX3, "isFull", "()Z"⟩
abbrev cX3_forget : ByteArray := prog_5_method_4_code
def yX3_forget : MethodName := ⟨RX3, "forget", "()V"⟩
abbrev cX3_append : ByteArray := prog_5_method_5_code
def yX3_append : MethodName := ⟨RX3, "append", "(I)I"⟩
def RX4 : String := "FasterForTheRich$Row"
def TX4 : u_T := fun k => match k with
  | 0 => ("FasterForTheRich$Numbers", "numbers", "[I", true)
  | _ => ("FasterForTheRich$Numbers", "size", "I", false)
def tyX4 : Nat → FieldType := fun k => match k with
  | 0 => .array .int
  | _ => .int
abbrev wsX40 : List Cond := u_ws RX4 TX4 2
theorem nmX4 : ∀ a, a < 2 → ∀ b, b < 2 → a ≠ b → (TX4 a).2.1 ≠ (TX4 b).2.1 := by decide +kernel
theorem tyX4_ok : ∀ k, k < 2 → parseFieldDescriptor (TX4 k).2.2.1 = some (tyX4 k) := by decide +kernel
abbrev cX4_init : ByteArray := prog_6_method_1_code
def yX4_init : MethodName := ⟨RX4, "<init>", "()V"⟩
abbrev cX4_fits : ByteArray := prog_6_method_2_code
def yX4_fits : MethodName := ⟨RX4, "fits", "(II)Z"⟩
abbrev cX4_firstUnlike : ByteArray := prog_6_method_3_code
def yX4_firstUnlike : MethodName := ⟨RX4, "firstUnlike", "([II)I"⟩
def RX5 : String := "FasterForTheRich$Town"
def TX5 : u_T := fun k => match k with
  | 0 => ("FasterForTheRich$Town", "kind", "[I", true)
  | 1 => ("FasterForTheRich$Town", "figure", "[I", true)
  | 2 => ("FasterForTheRich$Town", "holds", "[I", true)
  | 3 => ("FasterForTheRich$Town", "hides", "[I", true)
  | 4 => ("FasterForTheRich$Town", "candle", "[I", true)
  | 5 => ("FasterForTheRich$Town", "lit", "[Z", true)
  | 6 => ("FasterForTheRich$Town", "pages", "[I", true)
  | 7 => ("FasterForTheRich$Town", "cousin", "[I", true)
  | 8 => ("FasterForTheRich$Town", "gave", "[I", true)
  | 9 => ("FasterForTheRich$Town", "people", "I", false)
  | _ => ("FasterForTheRich$Town", "hour", "I", false)
def tyX5 : Nat → FieldType := fun k => match k with
  | 0 => .array .int
  | 1 => .array .int
  | 2 => .array .int
  | 3 => .array .int
  | 4 => .array .int
  | 5 => .array .boolean
  | 6 => .array .int
  | 7 => .array .int
  | 8 => .array .int
  | 9 => .int
  | _ => .int
abbrev wsX50 : List Cond := u_ws RX5 TX5 11
theorem nmX5 : ∀ a, a < 11 → ∀ b, b < 11 → a ≠ b → (TX5 a).2.1 ≠ (TX5 b).2.1 := by decide +kernel
theorem tyX5_ok : ∀ k, k < 11 → parseFieldDescriptor (TX5 k).2.2.1 = some (tyX5 k) := by decide +kernel
abbrev cX5_init : ByteArray := prog_7_method_1_code
def yX5_init : MethodName := ⟨RX5, "<init>", "()V"⟩
abbrev cX5_become : ByteArray := prog_7_method_2_code
def yX5_become : MethodName := ⟨RX5, "become", "(LFasterForTheRich$Town;)V"⟩
abbrev cX5_has : ByteArray := prog_7_method_3_code
def yX5_has : MethodName := ⟨RX5, "has", "(I)Z"⟩
abbrev cX5_isFull : ByteArray := prog_7_method_4_code
def yX5_isFull : MethodName := ⟨RX5, "isFull", "()Z"⟩
abbrev cX5_hasTimeFor : ByteArray := prog_7_method_5_code
def yX5_hasTimeFor : MethodName := ⟨RX5, "hasTimeFor", "(I)Z"⟩
abbrev cX5_add : ByteArray := prog_7_method_6_code
def yX5_add : MethodName := ⟨RX5, "add", "(III)V"⟩
abbrev cX5_putCandle : ByteArray := prog_7_method_7_code
def yX5_putCandle : MethodName := ⟨RX5, "putCandle", "(II)V"⟩
abbrev cX5_turnCousin : ByteArray := prog_7_method_8_code
def yX5_turnCousin : MethodName := ⟨RX5, "turnCousin", "(II)V"⟩
abbrev cX5_holdsWithMore : ByteArray := prog_7_method_9_code
def yX5_holdsWithMore : MethodName := ⟨RX5, "holdsWithMore", "(II)I"⟩
abbrev cX5_wealthOf : ByteArray := prog_7_method_10_code
def yX5_wealthOf : MethodName := ⟨RX5, "wealthOf", "(I)I"⟩
abbrev cX5_burnsOf : ByteArray := prog_7_method_11_code
def yX5_burnsOf : MethodName := ⟨RX5, "burnsOf", "(I)I"⟩
abbrev cX5_burnsHolding : ByteArray := prog_7_method_12_code
def yX5_burnsHolding : MethodName := ⟨RX5, "burnsHolding", "(II)I"⟩
abbrev cX5_lastsOf : ByteArray := prog_7_method_13_code
def yX5_lastsOf : MethodName := ⟨RX5, "lastsOf", "(I)I"⟩
abbrev cX5_lastsWithMore : ByteArray := prog_7_method_14_code
def yX5_lastsWithMore : MethodName := ⟨RX5, "lastsWithMore", "(II)I"⟩
abbrev cX5_lastsHolding : ByteArray := prog_7_method_15_code
def yX5_lastsHolding : MethodName := ⟨RX5, "lastsHolding", "(II)I"⟩
abbrev cX5_isHonest : ByteArray := prog_7_method_16_code
def yX5_isHonest : MethodName := ⟨RX5, "isHonest", "(I)Z"⟩
abbrev cX5_passHour : ByteArray := prog_7_method_17_code
def yX5_passHour : MethodName := ⟨RX5, "passHour", "()V"⟩
abbrev cX5_passHours : ByteArray := prog_7_method_18_code
def yX5_passHours : MethodName := ⟨RX5, "passHours", "(I)V"⟩
abbrev cX5_passNight : ByteArray := prog_7_method_19_code
def yX5_passNight : MethodName := ⟨RX5, "passNight", "(I)V"⟩
abbrev cX5_dusk : ByteArray := prog_7_method_20_code
def yX5_dusk : MethodName := ⟨RX5, "dusk", "()V"⟩
abbrev cX5_dawn : ByteArray := prog_7_method_21_code
def yX5_dawn : MethodName := ⟨RX5, "dawn", "()V"⟩
abbrev cX5_howManyLit : ByteArray := prog_7_method_22_code
def yX5_howManyLit : MethodName := ⟨RX5, "howManyLit", "()I"⟩
abbrev cX5_litOnes : ByteArray := prog_7_method_23_code
def yX5_litOnes : MethodName := ⟨RX5, "litOnes", "()I"⟩
abbrev cX5_howManyDark : ByteArray := prog_7_method_24_code
def yX5_howManyDark : MethodName := ⟨RX5, "howManyDark", "()I"⟩
abbrev cX5_allHolds : ByteArray := prog_7_method_25_code
def yX5_allHolds : MethodName := ⟨RX5, "allHolds", "()I"⟩
abbrev cX5_allCandles : ByteArray := prog_7_method_26_code
def yX5_allCandles : MethodName := ⟨RX5, "allCandles", "()I"⟩
abbrev cX5_allPages : ByteArray := prog_7_method_27_code
def yX5_allPages : MethodName := ⟨RX5, "allPages", "()I"⟩
abbrev cX5_sumOf : ByteArray := prog_7_method_28_code
def yX5_sumOf : MethodName := ⟨RX5, "sumOf", "([I)I"⟩
def RX6 : String := "FasterForTheRich"
def TX6 : u_T := fun k => match k with
  | 0 => ("FasterForTheRich", "now", "LFasterForTheRich$Town;", true)
  | 1 => ("FasterForTheRich", "mind", "LFasterForTheRich$Town;", true)
  | 2 => ("FasterForTheRich", "image", "LFasterForTheRich$Town;", true)
  | 3 => ("FasterForTheRich", "imageTaken", "Z", false)
  | 4 => ("FasterForTheRich", "history", "LFasterForTheRich$History;", true)
  | 5 => ("FasterForTheRich", "letters", "LFasterForTheRich$Letters;", true)
  | 6 => ("FasterForTheRich", "row", "LFasterForTheRich$Row;", true)
  | _ => ("FasterForTheRich", "refusals", "[I", true)
def tyX6 : Nat → FieldType := fun k => match k with
  | 0 => .object "FasterForTheRich$Town"
  | 1 => .object "FasterForTheRich$Town"
  | 2 => .object "FasterForTheRich$Town"
  | 3 => .boolean
  | 4 => .object "FasterForTheRich$History"
  | 5 => .object "FasterForTheRich$Letters"
  | 6 => .object "FasterForTheRich$Row"
  | _ => .array .int
abbrev wsX60 : List Cond := u_ws RX6 TX6 8
theorem nmX6 : ∀ a, a < 8 → ∀ b, b < 8 → a ≠ b → (TX6 a).2.1 ≠ (TX6 b).2.1 := by decide +kernel
theorem tyX6_ok : ∀ k, k < 8 → parseFieldDescriptor (TX6 k).2.2.1 = some (tyX6 k) := by decide +kernel
abbrev cX6_init : ByteArray := prog_1_method_1_code
def yX6_init : MethodName := ⟨RX6, "<init>", "()V"⟩
abbrev cX6_feed : ByteArray := prog_1_method_2_code
def yX6_feed : MethodName := ⟨RX6, "feed", "(I)I"⟩
abbrev cX6_town : ByteArray := prog_1_method_3_code
def yX6_town : MethodName := ⟨RX6, "town", "()I"⟩
abbrev cX6_personOf : ByteArray := prog_1_method_4_code
def yX6_personOf : MethodName := ⟨RX6, "personOf", "(II)I"⟩
abbrev cX6_person : ByteArray := prog_1_method_5_code
def yX6_person : MethodName := ⟨RX6, "person", "(III)I"⟩
abbrev cX6_sets : ByteArray := prog_1_method_6_code
def yX6_sets : MethodName := ⟨RX6, "sets", "(III)I"⟩
abbrev cX6_trusts : ByteArray := prog_1_method_7_code
def yX6_trusts : MethodName := ⟨RX6, "trusts", "(II)I"⟩
abbrev cX6_lights : ByteArray := prog_1_method_8_code
def yX6_lights : MethodName := ⟨RX6, "lights", "(I)I"⟩
abbrev cX6_gives : ByteArray := prog_1_method_9_code
def yX6_gives : MethodName := ⟨RX6, "gives", "(III)I"⟩
abbrev cX6_hours : ByteArray := prog_1_method_10_code
def yX6_hours : MethodName := ⟨RX6, "hours", "(I)I"⟩
abbrev cX6_nights : ByteArray := prog_1_method_11_code
def yX6_nights : MethodName := ⟨RX6, "nights", "(I)I"⟩
abbrev cX6_back : ByteArray := prog_1_method_12_code
def yX6_back : MethodName := ⟨RX6, "back", "()I"⟩
abbrev cX6_behind : ByteArray := prog_1_method_13_code
def yX6_behind : MethodName := ⟨RX6, "behind", "(III)I"⟩
abbrev cX6_all : ByteArray := prog_1_method_14_code
def yX6_all : MethodName := ⟨RX6, "all", "(II)I"⟩
abbrev cX6_lasts : ByteArray := prog_1_method_15_code
def yX6_lasts : MethodName := ⟨RX6, "lasts", "(I)I"⟩
abbrev cX6_longest : ByteArray := prog_1_method_16_code
def yX6_longest : MethodName := ⟨RX6, "longest", "(I)I"⟩
abbrev cX6_whoLastsLongest : ByteArray := prog_1_method_17_code
def yX6_whoLastsLongest : MethodName := ⟨RX6, "whoLastsLongest", "()I"⟩
abbrev cX6_hoursTillDark : ByteArray := prog_1_method_18_code
def yX6_hoursTillDark : MethodName := ⟨RX6, "hoursTillDark", "()I"⟩
abbrev cX6_whoGutters : ByteArray := prog_1_method_19_code
def yX6_whoGutters : MethodName := ⟨RX6, "whoGutters", "()I"⟩
abbrev cX6_give : ByteArray := prog_1_method_20_code
def yX6_give : MethodName := ⟨RX6, "give", "(III)I"⟩
abbrev cX6_bestFriend : ByteArray := prog_1_method_21_code
def yX6_bestFriend : MethodName := ⟨RX6, "bestFriend", "(II)I"⟩
abbrev cX6_lastsTogether : ByteArray := prog_1_method_22_code
def yX6_lastsTogether : MethodName := ⟨RX6, "lastsTogether", "(II)I"⟩
abbrev cX6_both : ByteArray := prog_1_method_23_code
def yX6_both : MethodName := ⟨RX6, "both", "(III)I"⟩
abbrev cX6_borrow : ByteArray := prog_1_method_24_code
def yX6_borrow : MethodName := ⟨RX6, "borrow", "(I)I"⟩
abbrev cX6_night : ByteArray := prog_1_method_25_code
def yX6_night : MethodName := ⟨RX6, "night", "(III)I"⟩
abbrev cX6_nightOfAll : ByteArray := prog_1_method_26_code
def yX6_nightOfAll : MethodName := ⟨RX6, "nightOfAll", "(II)I"⟩
abbrev cX6_trust : ByteArray := prog_1_method_27_code
def yX6_trust : MethodName := ⟨RX6, "trust", "(II)I"⟩
abbrev cX6_pagesTrusting : ByteArray := prog_1_method_28_code
def yX6_pagesTrusting : MethodName := ⟨RX6, "pagesTrusting", "(III)I"⟩
abbrev cX6_nightTrusting : ByteArray := prog_1_method_29_code
def yX6_nightTrusting : MethodName := ⟨RX6, "nightTrusting", "(III)V"⟩
abbrev cX6_safe : ByteArray := prog_1_method_30_code
def yX6_safe : MethodName := ⟨RX6, "safe", "(II)I"⟩
abbrev cX6_losesNothing : ByteArray := prog_1_method_31_code
def yX6_losesNothing : MethodName := ⟨RX6, "losesNothing", "(III)Z"⟩
abbrev cX6_relay : ByteArray := prog_1_method_32_code
def yX6_relay : MethodName := ⟨RX6, "relay", "(I)I"⟩
abbrev cX6_tax : ByteArray := prog_1_method_33_code
def yX6_tax : MethodName := ⟨RX6, "tax", "(II)I"⟩
abbrev cX6_hide : ByteArray := prog_1_method_34_code
def yX6_hide : MethodName := ⟨RX6, "hide", "(I)I"⟩
abbrev cX6_shares : ByteArray := prog_1_method_35_code
def yX6_shares : MethodName := ⟨RX6, "shares", "(I)I"⟩
abbrev cX6_whatHeHolds : ByteArray := prog_1_method_36_code
def yX6_whatHeHolds : MethodName := ⟨RX6, "whatHeHolds", "(II)I"⟩
abbrev cX6_holdsFit : ByteArray := prog_1_method_37_code
def yX6_holdsFit : MethodName := ⟨RX6, "holdsFit", "(II)Z"⟩
abbrev cX6_howManyHoldsFit : ByteArray := prog_1_method_38_code
def yX6_howManyHoldsFit : MethodName := ⟨RX6, "howManyHoldsFit", "(I)I"⟩
abbrev cX6_leastHoldsFit : ByteArray := prog_1_method_39_code
def yX6_leastHoldsFit : MethodName := ⟨RX6, "leastHoldsFit", "(I)I"⟩
abbrev cX6_kindsFit : ByteArray := prog_1_method_40_code
def yX6_kindsFit : MethodName := ⟨RX6, "kindsFit", "(I)I"⟩
abbrev cX6_figuresFit : ByteArray := prog_1_method_41_code
def yX6_figuresFit : MethodName := ⟨RX6, "figuresFit", "(I)I"⟩
abbrev cX6_whoGave : ByteArray := prog_1_method_42_code
def yX6_whoGave : MethodName := ⟨RX6, "whoGave", "(I)I"⟩
abbrev cX6_halve : ByteArray := prog_1_method_43_code
def yX6_halve : MethodName := ⟨RX6, "halve", "(II)I"⟩
abbrev cX6_keepsTo : ByteArray := prog_1_method_44_code
def yX6_keepsTo : MethodName := ⟨RX6, "keepsTo", "(IIII)Z"⟩
abbrev cX6_lastsHalving : ByteArray := prog_1_method_45_code
def yX6_lastsHalving : MethodName := ⟨RX6, "lastsHalving", "(IIII)I"⟩
abbrev cX6_draft : ByteArray := prog_1_method_46_code
def yX6_draft : MethodName := ⟨RX6, "draft", "(IIII)J"⟩
abbrev cX6_waysWithLight : ByteArray := prog_1_method_47_code
def yX6_waysWithLight : MethodName := ⟨RX6, "waysWithLight", "(III)J"⟩
abbrev cX6_power : ByteArray := prog_1_method_48_code
def yX6_power : MethodName := ⟨RX6, "power", "(II)J"⟩
abbrev cX6_partOf : ByteArray := prog_1_method_49_code
def yX6_partOf : MethodName := ⟨RX6, "partOf", "(JJI)J"⟩
abbrev cX6_richest : ByteArray := prog_1_method_50_code
def yX6_richest : MethodName := ⟨RX6, "richest", "(I)I"⟩
abbrev cX6_isFurther : ByteArray := prog_1_method_51_code
def yX6_isFurther : MethodName := ⟨RX6, "isFurther", "(III)Z"⟩
abbrev cX6_mean : ByteArray := prog_1_method_52_code
def yX6_mean : MethodName := ⟨RX6, "mean", "(I)J"⟩
abbrev cX6_apart : ByteArray := prog_1_method_53_code
def yX6_apart : MethodName := ⟨RX6, "apart", "()I"⟩
abbrev cX6_above : ByteArray := prog_1_method_54_code
def yX6_above : MethodName := ⟨RX6, "above", "(I)I"⟩
abbrev cX6_ring : ByteArray := prog_1_method_55_code
def yX6_ring : MethodName := ⟨RX6, "ring", "(I)I"⟩
abbrev cX6_trusted : ByteArray := prog_1_method_56_code
def yX6_trusted : MethodName := ⟨RX6, "trusted", "(I)I"⟩
abbrev cX6_unlit : ByteArray := prog_1_method_57_code
def yX6_unlit : MethodName := ⟨RX6, "unlit", "()I"⟩
abbrev cX6_gap : ByteArray := prog_1_method_58_code
def yX6_gap : MethodName := ⟨RX6, "gap", "(I)I"⟩
abbrev cX6_pagesByCandle : ByteArray := prog_1_method_59_code
def yX6_pagesByCandle : MethodName := ⟨RX6, "pagesByCandle", "(III)I"⟩
abbrev cX6_same : ByteArray := prog_1_method_60_code
def yX6_same : MethodName := ⟨RX6, "same", "()I"⟩
abbrev cX6_row : ByteArray := prog_1_method_61_code
def yX6_row : MethodName := ⟨RX6, "row", "(I)I"⟩
abbrev cX6_judge : ByteArray := prog_1_method_62_code
def yX6_judge : MethodName := ⟨RX6, "judge", "()I"⟩
abbrev cX6_clear : ByteArray := prog_1_method_63_code
def yX6_clear : MethodName := ⟨RX6, "clear", "()I"⟩
abbrev cX6_lots : ByteArray := prog_1_method_64_code
def yX6_lots : MethodName := ⟨RX6, "lots", "(III)I"⟩
abbrev cX6_image : ByteArray := prog_1_method_65_code
def yX6_image : MethodName := ⟨RX6, "image", "()I"⟩
abbrev cX6_restore : ByteArray := prog_1_method_66_code
def yX6_restore : MethodName := ⟨RX6, "restore", "()I"⟩
abbrev cX6_count : ByteArray := prog_1_method_67_code
def yX6_count : MethodName := ⟨RX6, "count", "(I)I"⟩
abbrev cX6_refuse : ByteArray := prog_1_method_68_code
def yX6_refuse : MethodName := ⟨RX6, "refuse", "(I)I"⟩
abbrev cX6_whyPerson : ByteArray := prog_1_method_69_code
def yX6_whyPerson : MethodName := ⟨RX6, "whyPerson", "(I)I"⟩
abbrev cX6_whyTwo : ByteArray := prog_1_method_70_code
def yX6_whyTwo : MethodName := ⟨RX6, "whyTwo", "(II)I"⟩
abbrev cX6_whyWhat : ByteArray := prog_1_method_71_code
def yX6_whyWhat : MethodName := ⟨RX6, "whyWhat", "(II)I"⟩
abbrev cX6_whyRange : ByteArray := prog_1_method_72_code
def yX6_whyRange : MethodName := ⟨RX6, "whyRange", "(III)I"⟩
abbrev cX6_whyHour : ByteArray := prog_1_method_73_code
def yX6_whyHour : MethodName := ⟨RX6, "whyHour", "(I)I"⟩
abbrev cX6_first : ByteArray := prog_1_method_74_code
def yX6_first : MethodName := ⟨RX6, "first", "(II)I"⟩
abbrev cX6_firstOf : ByteArray := prog_1_method_75_code
def yX6_firstOf : MethodName := ⟨RX6, "firstOf", "(III)I"⟩
abbrev cX6_bit : ByteArray := prog_1_method_76_code
def yX6_bit : MethodName := ⟨RX6, "bit", "(Z)I"⟩
def RX7 : String := "FasterForTheRichModel"
def TX7 : u_T := fun k => match k with
  | 0 => ("FasterForTheRichModel", "people", "I", false)
  | 1 => ("FasterForTheRichModel", "kinds", "[I", true)
  | 2 => ("FasterForTheRichModel", "figures", "[I", true)
  | 3 => ("FasterForTheRichModel", "holds0", "[I", true)
  | 4 => ("FasterForTheRichModel", "hides0", "[I", true)
  | 5 => ("FasterForTheRichModel", "candles", "[I", true)
  | 6 => ("FasterForTheRichModel", "lit0", "[I", true)
  | 7 => ("FasterForTheRichModel", "pages0", "[I", true)
  | 8 => ("FasterForTheRichModel", "cousins", "[I", true)
  | 9 => ("FasterForTheRichModel", "hour0", "I", false)
  | 10 => ("FasterForTheRichModel", "thrown", "I", false)
  | 11 => ("FasterForTheRichModel", "refusals", "[I", true)
  | 12 => ("FasterForTheRichModel", "gave", "[I", true)
  | 13 => ("FasterForTheRichModel", "letters", "[I", true)
  | 14 => ("FasterForTheRichModel", "letterMany", "I", false)
  | 15 => ("FasterForTheRichModel", "at", "I", false)
  | 16 => ("FasterForTheRichModel", "isBad", "Z", false)
  | 17 => ("FasterForTheRichModel", "statements", "I", false)
  | 18 => ("FasterForTheRichModel", "placeIn", "[I", true)
  | 19 => ("FasterForTheRichModel", "letterOf", "[I", true)
  | 20 => ("FasterForTheRichModel", "told", "[I", true)
  | 21 => ("FasterForTheRichModel", "kept", "[I", true)
  | 22 => ("FasterForTheRichModel", "imaged", "[I", true)
  | 23 => ("FasterForTheRichModel", "hasImage", "Z", false)
  | 24 => ("FasterForTheRichModel", "place0", "I", false)
  | 25 => ("FasterForTheRichModel", "isTaking", "Z", false)
  | 26 => ("FasterForTheRichModel", "keptIn", "[I", false)
  | 27 => ("FasterForTheRichModel", "turns0", "[I", true)
  | 28 => ("FasterForTheRichModel", "turnOf", "[I", true)
  | 29 => ("FasterForTheRichModel", "turned", "I", false)
  | 30 => ("FasterForTheRichModel", "row", "[I", true)
  | 31 => ("FasterForTheRichModel", "rowMany", "I", false)
  | _ => ("FasterForTheRichModel", "seed", "I", false)
def tyX7 : Nat → FieldType := fun k => match k with
  | 0 => .int
  | 1 => .array .int
  | 2 => .array .int
  | 3 => .array .int
  | 4 => .array .int
  | 5 => .array .int
  | 6 => .array .int
  | 7 => .array .int
  | 8 => .array .int
  | 9 => .int
  | 10 => .int
  | 11 => .array .int
  | 12 => .array .int
  | 13 => .array .int
  | 14 => .int
  | 15 => .int
  | 16 => .boolean
  | 17 => .int
  | 18 => .array .int
  | 19 => .array .int
  | 20 => .array .int
  | 21 => .array .int
  | 22 => .array .int
  | 23 => .boolean
  | 24 => .int
  | 25 => .boolean
  | 26 => .array .int
  | 27 => .array .int
  | 28 => .array .int
  | 29 => .int
  | 30 => .array .int
  | 31 => .int
  | _ => .int
abbrev wsX70 : List Cond := u_ws RX7 TX7 33
theorem nmX7 : ∀ a, a < 33 → ∀ b, b < 33 → a ≠ b → (TX7 a).2.1 ≠ (TX7 b).2.1 := by decide +kernel
theorem tyX7_ok : ∀ k, k < 33 → parseFieldDescriptor (TX7 k).2.2.1 = some (tyX7 k) := by decide +kernel
abbrev cX7_init : ByteArray := prog_9_method_1_code
def yX7_init : MethodName := ⟨RX7, "<init>", "()V"⟩
abbrev cX7_in : ByteArray := prog_9_method_3_code
def yX7_in : MethodName := ⟨RX7, "in", "(JJJ)Z"⟩
abbrev cX7_refuse : ByteArray := prog_9_method_4_code
def yX7_refuse : MethodName := ⟨RX7, "refuse", "(I)I"⟩
abbrev cX7_isOne : ByteArray := prog_9_method_5_code
def yX7_isOne : MethodName := ⟨RX7, "isOne", "(I)Z"⟩
abbrev cX7_areTwo : ByteArray := prog_9_method_6_code
def yX7_areTwo : MethodName := ⟨RX7, "areTwo", "(II)Z"⟩
abbrev cX7_wrongNumber : ByteArray := prog_9_method_7_code
def yX7_wrongNumber : MethodName := ⟨RX7, "wrongNumber", "(III)I"⟩
abbrev cX7_wrongBit : ByteArray := prog_9_method_8_code
def yX7_wrongBit : MethodName := ⟨RX7, "wrongBit", "(III)I"⟩
abbrev cX7_hasBit : ByteArray := prog_9_method_9_code
def yX7_hasBit : MethodName := ⟨RX7, "hasBit", "(II)Z"⟩
abbrev cX7_least : ByteArray := prog_9_method_10_code
def yX7_least : MethodName := ⟨RX7, "least", "(II)I"⟩
abbrev cX7_wealthOf : ByteArray := prog_9_method_11_code
def yX7_wealthOf : MethodName := ⟨RX7, "wealthOf", "(I)I"⟩
abbrev cX7_burnsOf : ByteArray := prog_9_method_12_code
def yX7_burnsOf : MethodName := ⟨RX7, "burnsOf", "(I)I"⟩
abbrev cX7_isHonest : ByteArray := prog_9_method_13_code
def yX7_isHonest : MethodName := ⟨RX7, "isHonest", "(I)Z"⟩
abbrev cX7_lastsOf : ByteArray := prog_9_method_14_code
def yX7_lastsOf : MethodName := ⟨RX7, "lastsOf", "(I)I"⟩
abbrev cX7_hourOn : ByteArray := prog_9_method_15_code
def yX7_hourOn : MethodName := ⟨RX7, "hourOn", "()V"⟩
abbrev cX7_goHours : ByteArray := prog_9_method_16_code
def yX7_goHours : MethodName := ⟨RX7, "goHours", "(I)V"⟩
abbrev cX7_goNight : ByteArray := prog_9_method_17_code
def yX7_goNight : MethodName := ⟨RX7, "goNight", "(I)V"⟩
abbrev cX7_allHolds : ByteArray := prog_9_method_18_code
def yX7_allHolds : MethodName := ⟨RX7, "allHolds", "()I"⟩
abbrev cX7_allCandles : ByteArray := prog_9_method_19_code
def yX7_allCandles : MethodName := ⟨RX7, "allCandles", "()I"⟩
abbrev cX7_allPages : ByteArray := prog_9_method_20_code
def yX7_allPages : MethodName := ⟨RX7, "allPages", "()I"⟩
abbrev cX7_litBits : ByteArray := prog_9_method_21_code
def yX7_litBits : MethodName := ⟨RX7, "litBits", "()I"⟩
abbrev cX7_litMany : ByteArray := prog_9_method_22_code
def yX7_litMany : MethodName := ⟨RX7, "litMany", "()I"⟩
abbrev cX7_feed : ByteArray := prog_9_method_23_code
def yX7_feed : MethodName := ⟨RX7, "feed", "(I)I"⟩
abbrev cX7_here : ByteArray := prog_9_method_24_code
def yX7_here : MethodName := ⟨RX7, "here", "()I"⟩
abbrev cX7_readDigits : ByteArray := prog_9_method_25_code
def yX7_readDigits : MethodName := ⟨RX7, "readDigits", "(I)I"⟩
abbrev cX7_isLetter : ByteArray := prog_9_method_26_code
def yX7_isLetter : MethodName := ⟨RX7, "isLetter", "(I)Z"⟩
abbrev cX7_readNumbers : ByteArray := prog_9_method_27_code
def yX7_readNumbers : MethodName := ⟨RX7, "readNumbers", "(II)V"⟩
abbrev cX7_readStatement : ByteArray := prog_9_method_28_code
def yX7_readStatement : MethodName := ⟨RX7, "readStatement", "()V"⟩
abbrev cX7_oneComes : ByteArray := prog_9_method_29_code
def yX7_oneComes : MethodName := ⟨RX7, "oneComes", "(III)V"⟩
abbrev cX7_setCandle : ByteArray := prog_9_method_30_code
def yX7_setCandle : MethodName := ⟨RX7, "setCandle", "(II)V"⟩
abbrev cX7_comesTold : ByteArray := prog_9_method_31_code
def yX7_comesTold : MethodName := ⟨RX7, "comesTold", "(I)Z"⟩
abbrev cX7_town : ByteArray := prog_9_method_32_code
def yX7_town : MethodName := ⟨RX7, "town", "()I"⟩
abbrev cX7_carry : ByteArray := prog_9_method_33_code
def yX7_carry : MethodName := ⟨RX7, "carry", "(I)I"⟩
abbrev cX7_carryAll : ByteArray := prog_9_method_34_code
def yX7_carryAll : MethodName := ⟨RX7, "carryAll", "([IZ)V"⟩
abbrev cX7_think : ByteArray := prog_9_method_35_code
def yX7_think : MethodName := ⟨RX7, "think", "()V"⟩
abbrev cX7_again : ByteArray := prog_9_method_36_code
def yX7_again : MethodName := ⟨RX7, "again", "()V"⟩
abbrev cX7_image : ByteArray := prog_9_method_37_code
def yX7_image : MethodName := ⟨RX7, "image", "()I"⟩
abbrev cX7_restore : ByteArray := prog_9_method_38_code
def yX7_restore : MethodName := ⟨RX7, "restore", "()I"⟩
abbrev cX7_keepTurn : ByteArray := prog_9_method_39_code
def yX7_keepTurn : MethodName := ⟨RX7, "keepTurn", "()V"⟩
abbrev cX7_back : ByteArray := prog_9_method_40_code
def yX7_back : MethodName := ⟨RX7, "back", "()I"⟩
abbrev cX7_personOf : ByteArray := prog_9_method_41_code
def yX7_personOf : MethodName := ⟨RX7, "personOf", "(II)I"⟩
abbrev cX7_person : ByteArray := prog_9_method_42_code
def yX7_person : MethodName := ⟨RX7, "person", "(III)I"⟩
abbrev cX7_sets : ByteArray := prog_9_method_43_code
def yX7_sets : MethodName := ⟨RX7, "sets", "(III)I"⟩
abbrev cX7_trusts : ByteArray := prog_9_method_44_code
def yX7_trusts : MethodName := ⟨RX7, "trusts", "(II)I"⟩
abbrev cX7_lights : ByteArray := prog_9_method_45_code
def yX7_lights : MethodName := ⟨RX7, "lights", "(I)I"⟩
abbrev cX7_gives : ByteArray := prog_9_method_46_code
def yX7_gives : MethodName := ⟨RX7, "gives", "(III)I"⟩
abbrev cX7_hours : ByteArray := prog_9_method_47_code
def yX7_hours : MethodName := ⟨RX7, "hours", "(I)I"⟩
abbrev cX7_nights : ByteArray := prog_9_method_48_code
def yX7_nights : MethodName := ⟨RX7, "nights", "(I)I"⟩
abbrev cX7_behind : ByteArray := prog_9_method_49_code
def yX7_behind : MethodName := ⟨RX7, "behind", "(III)I"⟩
abbrev cX7_all : ByteArray := prog_9_method_50_code
def yX7_all : MethodName := ⟨RX7, "all", "(II)I"⟩
abbrev cX7_lasts : ByteArray := prog_9_method_51_code
def yX7_lasts : MethodName := ⟨RX7, "lasts", "(I)I"⟩
abbrev cX7_longestOne : ByteArray := prog_9_method_52_code
def yX7_longestOne : MethodName := ⟨RX7, "longestOne", "()I"⟩
abbrev cX7_darkIn : ByteArray := prog_9_method_53_code
def yX7_darkIn : MethodName := ⟨RX7, "darkIn", "()I"⟩
abbrev cX7_longest : ByteArray := prog_9_method_54_code
def yX7_longest : MethodName := ⟨RX7, "longest", "(I)I"⟩
abbrev cX7_give : ByteArray := prog_9_method_55_code
def yX7_give : MethodName := ⟨RX7, "give", "(III)I"⟩
abbrev cX7_lastsBy : ByteArray := prog_9_method_56_code
def yX7_lastsBy : MethodName := ⟨RX7, "lastsBy", "(IIIZ)I"⟩
abbrev cX7_bestFriend : ByteArray := prog_9_method_57_code
def yX7_bestFriend : MethodName := ⟨RX7, "bestFriend", "(II)I"⟩
abbrev cX7_both : ByteArray := prog_9_method_58_code
def yX7_both : MethodName := ⟨RX7, "both", "(III)I"⟩
abbrev cX7_borrow : ByteArray := prog_9_method_59_code
def yX7_borrow : MethodName := ⟨RX7, "borrow", "(I)I"⟩
abbrev cX7_night : ByteArray := prog_9_method_60_code
def yX7_night : MethodName := ⟨RX7, "night", "(III)I"⟩
abbrev cX7_nightOfAll : ByteArray := prog_9_method_61_code
def yX7_nightOfAll : MethodName := ⟨RX7, "nightOfAll", "(II)I"⟩
abbrev cX7_readsWith : ByteArray := prog_9_method_62_code
def yX7_readsWith : MethodName := ⟨RX7, "readsWith", "(III)I"⟩
abbrev cX7_trust : ByteArray := prog_9_method_63_code
def yX7_trust : MethodName := ⟨RX7, "trust", "(II)I"⟩
abbrev cX7_safe : ByteArray := prog_9_method_64_code
def yX7_safe : MethodName := ⟨RX7, "safe", "(II)I"⟩
abbrev cX7_relay : ByteArray := prog_9_method_65_code
def yX7_relay : MethodName := ⟨RX7, "relay", "(I)I"⟩
abbrev cX7_tax : ByteArray := prog_9_method_66_code
def yX7_tax : MethodName := ⟨RX7, "tax", "(II)I"⟩
abbrev cX7_hide : ByteArray := prog_9_method_67_code
def yX7_hide : MethodName := ⟨RX7, "hide", "(I)I"⟩
abbrev cX7_isRow : ByteArray := prog_9_method_68_code
def yX7_isRow : MethodName := ⟨RX7, "isRow", "(I)Z"⟩
abbrev cX7_whatHeHolds : ByteArray := prog_9_method_69_code
def yX7_whatHeHolds : MethodName := ⟨RX7, "whatHeHolds", "(II)I"⟩
abbrev cX7_whoGave : ByteArray := prog_9_method_70_code
def yX7_whoGave : MethodName := ⟨RX7, "whoGave", "(I)I"⟩
abbrev cX7_lastsIn : ByteArray := prog_9_method_71_code
def yX7_lastsIn : MethodName := ⟨RX7, "lastsIn", "(IIIII)I"⟩
abbrev cX7_halve : ByteArray := prog_9_method_72_code
def yX7_halve : MethodName := ⟨RX7, "halve", "(II)I"⟩
abbrev cX7_divisor : ByteArray := prog_9_method_73_code
def yX7_divisor : MethodName := ⟨RX7, "divisor", "(JJ)J"⟩
abbrev cX7_partOf : ByteArray := prog_9_method_74_code
def yX7_partOf : MethodName := ⟨RX7, "partOf", "(JJI)J"⟩
abbrev cX7_draft : ByteArray := prog_9_method_75_code
def yX7_draft : MethodName := ⟨RX7, "draft", "(IIII)J"⟩
abbrev cX7_shares : ByteArray := prog_9_method_76_code
def yX7_shares : MethodName := ⟨RX7, "shares", "(I)I"⟩
abbrev cX7_richest : ByteArray := prog_9_method_77_code
def yX7_richest : MethodName := ⟨RX7, "richest", "(I)I"⟩
abbrev cX7_allWealth : ByteArray := prog_9_method_78_code
def yX7_allWealth : MethodName := ⟨RX7, "allWealth", "()I"⟩
abbrev cX7_mean : ByteArray := prog_9_method_79_code
def yX7_mean : MethodName := ⟨RX7, "mean", "(I)J"⟩
abbrev cX7_apart : ByteArray := prog_9_method_80_code
def yX7_apart : MethodName := ⟨RX7, "apart", "()I"⟩
abbrev cX7_ring : ByteArray := prog_9_method_81_code
def yX7_ring : MethodName := ⟨RX7, "ring", "(I)I"⟩
abbrev cX7_above : ByteArray := prog_9_method_82_code
def yX7_above : MethodName := ⟨RX7, "above", "(I)I"⟩
abbrev cX7_trusted : ByteArray := prog_9_method_83_code
def yX7_trusted : MethodName := ⟨RX7, "trusted", "(I)I"⟩
abbrev cX7_unlit : ByteArray := prog_9_method_84_code
def yX7_unlit : MethodName := ⟨RX7, "unlit", "()I"⟩
abbrev cX7_gap : ByteArray := prog_9_method_85_code
def yX7_gap : MethodName := ⟨RX7, "gap", "(I)I"⟩
abbrev cX7_same : ByteArray := prog_9_method_86_code
def yX7_same : MethodName := ⟨RX7, "same", "()I"⟩
abbrev cX7_row : ByteArray := prog_9_method_87_code
def yX7_row : MethodName := ⟨RX7, "row", "(I)I"⟩
abbrev cX7_judge : ByteArray := prog_9_method_88_code
def yX7_judge : MethodName := ⟨RX7, "judge", "()I"⟩
abbrev cX7_clear : ByteArray := prog_9_method_89_code
def yX7_clear : MethodName := ⟨RX7, "clear", "()I"⟩
abbrev cX7_drawBelow : ByteArray := prog_9_method_90_code
def yX7_drawBelow : MethodName := ⟨RX7, "drawBelow", "(I)I"⟩
abbrev cX7_lots : ByteArray := prog_9_method_91_code
def yX7_lots : MethodName := ⟨RX7, "lots", "(III)I"⟩
abbrev cX7_count : ByteArray := prog_9_method_92_code
def yX7_count : MethodName := ⟨RX7, "count", "(I)I"⟩
def RJ6 : String := "java/lang/Integer"
def TJ6 : u_T := fun k => match k with
  | _ => ("", "", "", false)
def tyJ6 : Nat → FieldType := fun k => match k with
  | _ => .int
abbrev wsJ60 : List Cond := u_ws RJ6 TJ6 0
theorem nmJ6 : ∀ a, a < 0 → ∀ b, b < 0 → a ≠ b → (TJ6 a).2.1 ≠ (TJ6 b).2.1 := by decide +kernel
theorem tyJ6_ok : ∀ k, k < 0 → parseFieldDescriptor (TJ6 k).2.2.1 = some (tyJ6 k) := by decide +kernel
abbrev cJ6_bitCount_0f7a4 : ByteArray := prog_10_method_49_code
def yJ6_bitCount_0f7a4 : MethodName := ⟨RJ6, "bitCount", "(I)I"⟩
def RJ9 : String := "java/lang/Math"
def TJ9 : u_T := fun k => match k with
  | _ => ("", "", "", false)
def tyJ9 : Nat → FieldType := fun k => match k with
  | _ => .int
abbrev wsJ90 : List Cond := u_ws RJ9 TJ9 0
theorem nmJ9 : ∀ a, a < 0 → ∀ b, b < 0 → a ≠ b → (TJ9 a).2.1 ≠ (TJ9 b).2.1 := by decide +kernel
theorem tyJ9_ok : ∀ k, k < 0 → parseFieldDescriptor (TJ9 k).2.2.1 = some (tyJ9 k) := by decide +kernel
abbrev cJ9_max_7cf53 : ByteArray := prog_11_method_65_code
def yJ9_max_7cf53 : MethodName := ⟨RJ9, "max", "(II)I"⟩
abbrev cJ9_min_7cf53 : ByteArray := prog_11_method_69_code
def yJ9_min_7cf53 : MethodName := ⟨RJ9, "min", "(II)I"⟩
def RL : String := "FasterForTheRichLaw"
abbrev cL_law : ByteArray := code
def yL_law : MethodName := ⟨RL, "law", "([I)Z"⟩
