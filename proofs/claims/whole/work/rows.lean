section
-- ===== PART A: goes FIRST, ahead of the names: the tables' words, and 'selects' of the private methods out of them =====
/-- a private method of a class that the tables say can be made, by its rows of tables_1 -/
def lw_okq (q : MethodName × Nat) : Prop := (q.1.cls ≠ "java/lang/invoke/MethodHandle" ∧ q.1.cls ≠ "java/lang/invoke/VarHandle") ∧ Cond.instantiable q.1.cls q.2 ∈ tables_1 ∧ Cond.privateMethod q.1 ∈ tables_1 ∧ Cond.instanceMethod q.1 ∈ tables_1
theorem lw_p0 : lw_okq (⟨"FasterForTheRich", "refuse", "(I)I"⟩, 8) := ⟨⟨by decide +kernel, by decide +kernel⟩, List.mem_of_getElem? (i := 12) (by decide +kernel), List.mem_of_getElem? (i := 168) (by decide +kernel), List.mem_of_getElem? (i := 169) (by decide +kernel)⟩
theorem lw_p1 : lw_okq (⟨"FasterForTheRich$Letters", "comes", "(LFasterForTheRich$Town;I)Z"⟩, 2) := ⟨⟨by decide +kernel, by decide +kernel⟩, List.mem_of_getElem? (i := 94) (by decide +kernel), List.mem_of_getElem? (i := 201) (by decide +kernel), List.mem_of_getElem? (i := 202) (by decide +kernel)⟩
theorem lw_p2 : lw_okq (⟨"FasterForTheRich$Letters", "digit", "(I)I"⟩, 2) := ⟨⟨by decide +kernel, by decide +kernel⟩, List.mem_of_getElem? (i := 94) (by decide +kernel), List.mem_of_getElem? (i := 205) (by decide +kernel), List.mem_of_getElem? (i := 206) (by decide +kernel)⟩
theorem lw_p3 : lw_okq (⟨"FasterForTheRich$Letters", "twoDigits", "(I)I"⟩, 2) := ⟨⟨by decide +kernel, by decide +kernel⟩, List.mem_of_getElem? (i := 94) (by decide +kernel), List.mem_of_getElem? (i := 209) (by decide +kernel), List.mem_of_getElem? (i := 210) (by decide +kernel)⟩
theorem lw_p4 : lw_okq (⟨"FasterForTheRich$Town", "dusk", "()V"⟩, 11) := ⟨⟨by decide +kernel, by decide +kernel⟩, List.mem_of_getElem? (i := 20) (by decide +kernel), List.mem_of_getElem? (i := 257) (by decide +kernel), List.mem_of_getElem? (i := 258) (by decide +kernel)⟩
theorem lw_p5 : lw_okq (⟨"FasterForTheRich$Town", "dawn", "()V"⟩, 11) := ⟨⟨by decide +kernel, by decide +kernel⟩, List.mem_of_getElem? (i := 20) (by decide +kernel), List.mem_of_getElem? (i := 285) (by decide +kernel), List.mem_of_getElem? (i := 286) (by decide +kernel)⟩
theorem lw_p6 : lw_okq (⟨"FasterForTheRich", "whyPerson", "(I)I"⟩, 8) := ⟨⟨by decide +kernel, by decide +kernel⟩, List.mem_of_getElem? (i := 12) (by decide +kernel), List.mem_of_getElem? (i := 310) (by decide +kernel), List.mem_of_getElem? (i := 311) (by decide +kernel)⟩
theorem lw_p7 : lw_okq (⟨"FasterForTheRich", "whyTwo", "(II)I"⟩, 8) := ⟨⟨by decide +kernel, by decide +kernel⟩, List.mem_of_getElem? (i := 12) (by decide +kernel), List.mem_of_getElem? (i := 356) (by decide +kernel), List.mem_of_getElem? (i := 357) (by decide +kernel)⟩
theorem lw_p8 : lw_okq (⟨"FasterForTheRich", "whyHour", "(I)I"⟩, 8) := ⟨⟨by decide +kernel, by decide +kernel⟩, List.mem_of_getElem? (i := 12) (by decide +kernel), List.mem_of_getElem? (i := 373) (by decide +kernel), List.mem_of_getElem? (i := 374) (by decide +kernel)⟩
theorem lw_p9 : lw_okq (⟨"FasterForTheRich$Town", "sumOf", "([I)I"⟩, 11) := ⟨⟨by decide +kernel, by decide +kernel⟩, List.mem_of_getElem? (i := 20) (by decide +kernel), List.mem_of_getElem? (i := 404) (by decide +kernel), List.mem_of_getElem? (i := 405) (by decide +kernel)⟩
theorem lw_p10 : lw_okq (⟨"FasterForTheRich", "whoLastsLongest", "()I"⟩, 8) := ⟨⟨by decide +kernel, by decide +kernel⟩, List.mem_of_getElem? (i := 12) (by decide +kernel), List.mem_of_getElem? (i := 445) (by decide +kernel), List.mem_of_getElem? (i := 446) (by decide +kernel)⟩
theorem lw_p11 : lw_okq (⟨"FasterForTheRich", "hoursTillDark", "()I"⟩, 8) := ⟨⟨by decide +kernel, by decide +kernel⟩, List.mem_of_getElem? (i := 12) (by decide +kernel), List.mem_of_getElem? (i := 449) (by decide +kernel), List.mem_of_getElem? (i := 450) (by decide +kernel)⟩
theorem lw_p12 : lw_okq (⟨"FasterForTheRich", "whoGutters", "()I"⟩, 8) := ⟨⟨by decide +kernel, by decide +kernel⟩, List.mem_of_getElem? (i := 12) (by decide +kernel), List.mem_of_getElem? (i := 454) (by decide +kernel), List.mem_of_getElem? (i := 455) (by decide +kernel)⟩
theorem lw_p13 : lw_okq (⟨"FasterForTheRich", "lastsTogether", "(II)I"⟩, 8) := ⟨⟨by decide +kernel, by decide +kernel⟩, List.mem_of_getElem? (i := 12) (by decide +kernel), List.mem_of_getElem? (i := 467) (by decide +kernel), List.mem_of_getElem? (i := 468) (by decide +kernel)⟩
theorem lw_p14 : lw_okq (⟨"FasterForTheRich", "pagesTrusting", "(III)I"⟩, 8) := ⟨⟨by decide +kernel, by decide +kernel⟩, List.mem_of_getElem? (i := 12) (by decide +kernel), List.mem_of_getElem? (i := 501) (by decide +kernel), List.mem_of_getElem? (i := 502) (by decide +kernel)⟩
theorem lw_p15 : lw_okq (⟨"FasterForTheRich", "nightTrusting", "(III)V"⟩, 8) := ⟨⟨by decide +kernel, by decide +kernel⟩, List.mem_of_getElem? (i := 12) (by decide +kernel), List.mem_of_getElem? (i := 505) (by decide +kernel), List.mem_of_getElem? (i := 506) (by decide +kernel)⟩
def lw_privs_1 : List (MethodName × Nat) := [(⟨"FasterForTheRich", "refuse", "(I)I"⟩, 8), (⟨"FasterForTheRich$Letters", "comes", "(LFasterForTheRich$Town;I)Z"⟩, 2), (⟨"FasterForTheRich$Letters", "digit", "(I)I"⟩, 2), (⟨"FasterForTheRich$Letters", "twoDigits", "(I)I"⟩, 2), (⟨"FasterForTheRich$Town", "dusk", "()V"⟩, 11), (⟨"FasterForTheRich$Town", "dawn", "()V"⟩, 11), (⟨"FasterForTheRich", "whyPerson", "(I)I"⟩, 8), (⟨"FasterForTheRich", "whyTwo", "(II)I"⟩, 8), (⟨"FasterForTheRich", "whyHour", "(I)I"⟩, 8), (⟨"FasterForTheRich$Town", "sumOf", "([I)I"⟩, 11), (⟨"FasterForTheRich", "whoLastsLongest", "()I"⟩, 8), (⟨"FasterForTheRich", "hoursTillDark", "()I"⟩, 8), (⟨"FasterForTheRich", "whoGutters", "()I"⟩, 8), (⟨"FasterForTheRich", "lastsTogether", "(II)I"⟩, 8), (⟨"FasterForTheRich", "pagesTrusting", "(III)I"⟩, 8), (⟨"FasterForTheRich", "nightTrusting", "(III)V"⟩, 8)]
theorem lw_r1 : ∀ q ∈ lw_privs_1, lw_okq q := List.forall_mem_cons.mpr ⟨lw_p0, List.forall_mem_cons.mpr ⟨lw_p1, List.forall_mem_cons.mpr ⟨lw_p2, List.forall_mem_cons.mpr ⟨lw_p3, List.forall_mem_cons.mpr ⟨lw_p4, List.forall_mem_cons.mpr ⟨lw_p5, List.forall_mem_cons.mpr ⟨lw_p6, List.forall_mem_cons.mpr ⟨lw_p7, List.forall_mem_cons.mpr ⟨lw_p8, List.forall_mem_cons.mpr ⟨lw_p9, List.forall_mem_cons.mpr ⟨lw_p10, List.forall_mem_cons.mpr ⟨lw_p11, List.forall_mem_cons.mpr ⟨lw_p12, List.forall_mem_cons.mpr ⟨lw_p13, List.forall_mem_cons.mpr ⟨lw_p14, List.forall_mem_cons.mpr ⟨lw_p15, fun _ h => absurd h List.not_mem_nil⟩⟩⟩⟩⟩⟩⟩⟩⟩⟩⟩⟩⟩⟩⟩⟩
theorem lw_p16 : lw_okq (⟨"FasterForTheRich", "losesNothing", "(III)Z"⟩, 8) := ⟨⟨by decide +kernel, by decide +kernel⟩, List.mem_of_getElem? (i := 12) (by decide +kernel), List.mem_of_getElem? (i := 513) (by decide +kernel), List.mem_of_getElem? (i := 514) (by decide +kernel)⟩
theorem lw_p17 : lw_okq (⟨"FasterForTheRich", "howManyHoldsFit", "(I)I"⟩, 8) := ⟨⟨by decide +kernel, by decide +kernel⟩, List.mem_of_getElem? (i := 12) (by decide +kernel), List.mem_of_getElem? (i := 543) (by decide +kernel), List.mem_of_getElem? (i := 544) (by decide +kernel)⟩
theorem lw_p18 : lw_okq (⟨"FasterForTheRich", "holdsFit", "(II)Z"⟩, 8) := ⟨⟨by decide +kernel, by decide +kernel⟩, List.mem_of_getElem? (i := 12) (by decide +kernel), List.mem_of_getElem? (i := 547) (by decide +kernel), List.mem_of_getElem? (i := 548) (by decide +kernel)⟩
theorem lw_p19 : lw_okq (⟨"FasterForTheRich", "leastHoldsFit", "(I)I"⟩, 8) := ⟨⟨by decide +kernel, by decide +kernel⟩, List.mem_of_getElem? (i := 12) (by decide +kernel), List.mem_of_getElem? (i := 557) (by decide +kernel), List.mem_of_getElem? (i := 558) (by decide +kernel)⟩
theorem lw_p20 : lw_okq (⟨"FasterForTheRich", "kindsFit", "(I)I"⟩, 8) := ⟨⟨by decide +kernel, by decide +kernel⟩, List.mem_of_getElem? (i := 12) (by decide +kernel), List.mem_of_getElem? (i := 561) (by decide +kernel), List.mem_of_getElem? (i := 562) (by decide +kernel)⟩
theorem lw_p21 : lw_okq (⟨"FasterForTheRich", "figuresFit", "(I)I"⟩, 8) := ⟨⟨by decide +kernel, by decide +kernel⟩, List.mem_of_getElem? (i := 12) (by decide +kernel), List.mem_of_getElem? (i := 566) (by decide +kernel), List.mem_of_getElem? (i := 567) (by decide +kernel)⟩
theorem lw_p22 : lw_okq (⟨"FasterForTheRich", "keepsTo", "(IIII)Z"⟩, 8) := ⟨⟨by decide +kernel, by decide +kernel⟩, List.mem_of_getElem? (i := 12) (by decide +kernel), List.mem_of_getElem? (i := 579) (by decide +kernel), List.mem_of_getElem? (i := 580) (by decide +kernel)⟩
theorem lw_p23 : lw_okq (⟨"FasterForTheRich", "lastsHalving", "(IIII)I"⟩, 8) := ⟨⟨by decide +kernel, by decide +kernel⟩, List.mem_of_getElem? (i := 12) (by decide +kernel), List.mem_of_getElem? (i := 583) (by decide +kernel), List.mem_of_getElem? (i := 584) (by decide +kernel)⟩
theorem lw_p24 : lw_okq (⟨"FasterForTheRich", "waysWithLight", "(III)J"⟩, 8) := ⟨⟨by decide +kernel, by decide +kernel⟩, List.mem_of_getElem? (i := 12) (by decide +kernel), List.mem_of_getElem? (i := 592) (by decide +kernel), List.mem_of_getElem? (i := 593) (by decide +kernel)⟩
theorem lw_p25 : lw_okq (⟨"FasterForTheRich", "isFurther", "(III)Z"⟩, 8) := ⟨⟨by decide +kernel, by decide +kernel⟩, List.mem_of_getElem? (i := 12) (by decide +kernel), List.mem_of_getElem? (i := 606) (by decide +kernel), List.mem_of_getElem? (i := 607) (by decide +kernel)⟩
theorem lw_p26 : lw_okq (⟨"FasterForTheRich", "pagesByCandle", "(III)I"⟩, 8) := ⟨⟨by decide +kernel, by decide +kernel⟩, List.mem_of_getElem? (i := 12) (by decide +kernel), List.mem_of_getElem? (i := 638) (by decide +kernel), List.mem_of_getElem? (i := 639) (by decide +kernel)⟩
theorem lw_p27 : lw_okq (⟨"FasterForTheRichModel", "refuse", "(I)I"⟩, 33) := ⟨⟨by decide +kernel, by decide +kernel⟩, List.mem_of_getElem? (i := 704) (by decide +kernel), List.mem_of_getElem? (i := 814) (by decide +kernel), List.mem_of_getElem? (i := 815) (by decide +kernel)⟩
theorem lw_p28 : lw_okq (⟨"FasterForTheRichModel", "readStatement", "()V"⟩, 33) := ⟨⟨by decide +kernel, by decide +kernel⟩, List.mem_of_getElem? (i := 704) (by decide +kernel), List.mem_of_getElem? (i := 822) (by decide +kernel), List.mem_of_getElem? (i := 823) (by decide +kernel)⟩
theorem lw_p29 : lw_okq (⟨"FasterForTheRichModel", "here", "()I"⟩, 33) := ⟨⟨by decide +kernel, by decide +kernel⟩, List.mem_of_getElem? (i := 704) (by decide +kernel), List.mem_of_getElem? (i := 826) (by decide +kernel), List.mem_of_getElem? (i := 827) (by decide +kernel)⟩
theorem lw_p30 : lw_okq (⟨"FasterForTheRichModel", "readNumbers", "(II)V"⟩, 33) := ⟨⟨by decide +kernel, by decide +kernel⟩, List.mem_of_getElem? (i := 704) (by decide +kernel), List.mem_of_getElem? (i := 833) (by decide +kernel), List.mem_of_getElem? (i := 834) (by decide +kernel)⟩
theorem lw_p31 : lw_okq (⟨"FasterForTheRichModel", "readDigits", "(I)I"⟩, 33) := ⟨⟨by decide +kernel, by decide +kernel⟩, List.mem_of_getElem? (i := 704) (by decide +kernel), List.mem_of_getElem? (i := 837) (by decide +kernel), List.mem_of_getElem? (i := 838) (by decide +kernel)⟩
def lw_privs_2 : List (MethodName × Nat) := [(⟨"FasterForTheRich", "losesNothing", "(III)Z"⟩, 8), (⟨"FasterForTheRich", "howManyHoldsFit", "(I)I"⟩, 8), (⟨"FasterForTheRich", "holdsFit", "(II)Z"⟩, 8), (⟨"FasterForTheRich", "leastHoldsFit", "(I)I"⟩, 8), (⟨"FasterForTheRich", "kindsFit", "(I)I"⟩, 8), (⟨"FasterForTheRich", "figuresFit", "(I)I"⟩, 8), (⟨"FasterForTheRich", "keepsTo", "(IIII)Z"⟩, 8), (⟨"FasterForTheRich", "lastsHalving", "(IIII)I"⟩, 8), (⟨"FasterForTheRich", "waysWithLight", "(III)J"⟩, 8), (⟨"FasterForTheRich", "isFurther", "(III)Z"⟩, 8), (⟨"FasterForTheRich", "pagesByCandle", "(III)I"⟩, 8), (⟨"FasterForTheRichModel", "refuse", "(I)I"⟩, 33), (⟨"FasterForTheRichModel", "readStatement", "()V"⟩, 33), (⟨"FasterForTheRichModel", "here", "()I"⟩, 33), (⟨"FasterForTheRichModel", "readNumbers", "(II)V"⟩, 33), (⟨"FasterForTheRichModel", "readDigits", "(I)I"⟩, 33)]
theorem lw_r2 : ∀ q ∈ lw_privs_2, lw_okq q := List.forall_mem_cons.mpr ⟨lw_p16, List.forall_mem_cons.mpr ⟨lw_p17, List.forall_mem_cons.mpr ⟨lw_p18, List.forall_mem_cons.mpr ⟨lw_p19, List.forall_mem_cons.mpr ⟨lw_p20, List.forall_mem_cons.mpr ⟨lw_p21, List.forall_mem_cons.mpr ⟨lw_p22, List.forall_mem_cons.mpr ⟨lw_p23, List.forall_mem_cons.mpr ⟨lw_p24, List.forall_mem_cons.mpr ⟨lw_p25, List.forall_mem_cons.mpr ⟨lw_p26, List.forall_mem_cons.mpr ⟨lw_p27, List.forall_mem_cons.mpr ⟨lw_p28, List.forall_mem_cons.mpr ⟨lw_p29, List.forall_mem_cons.mpr ⟨lw_p30, List.forall_mem_cons.mpr ⟨lw_p31, fun _ h => absurd h List.not_mem_nil⟩⟩⟩⟩⟩⟩⟩⟩⟩⟩⟩⟩⟩⟩⟩⟩
theorem lw_p32 : lw_okq (⟨"FasterForTheRichModel", "think", "()V"⟩, 33) := ⟨⟨by decide +kernel, by decide +kernel⟩, List.mem_of_getElem? (i := 704) (by decide +kernel), List.mem_of_getElem? (i := 846) (by decide +kernel), List.mem_of_getElem? (i := 847) (by decide +kernel)⟩
theorem lw_p33 : lw_okq (⟨"FasterForTheRichModel", "carryAll", "([IZ)V"⟩, 33) := ⟨⟨by decide +kernel, by decide +kernel⟩, List.mem_of_getElem? (i := 704) (by decide +kernel), List.mem_of_getElem? (i := 850) (by decide +kernel), List.mem_of_getElem? (i := 851) (by decide +kernel)⟩
theorem lw_p34 : lw_okq (⟨"FasterForTheRichModel", "carry", "(I)I"⟩, 33) := ⟨⟨by decide +kernel, by decide +kernel⟩, List.mem_of_getElem? (i := 704) (by decide +kernel), List.mem_of_getElem? (i := 854) (by decide +kernel), List.mem_of_getElem? (i := 855) (by decide +kernel)⟩
theorem lw_p35 : lw_okq (⟨"FasterForTheRichModel", "comesTold", "(I)Z"⟩, 33) := ⟨⟨by decide +kernel, by decide +kernel⟩, List.mem_of_getElem? (i := 704) (by decide +kernel), List.mem_of_getElem? (i := 858) (by decide +kernel), List.mem_of_getElem? (i := 859) (by decide +kernel)⟩
theorem lw_p36 : lw_okq (⟨"FasterForTheRichModel", "oneComes", "(III)V"⟩, 33) := ⟨⟨by decide +kernel, by decide +kernel⟩, List.mem_of_getElem? (i := 704) (by decide +kernel), List.mem_of_getElem? (i := 862) (by decide +kernel), List.mem_of_getElem? (i := 863) (by decide +kernel)⟩
theorem lw_p37 : lw_okq (⟨"FasterForTheRichModel", "isOne", "(I)Z"⟩, 33) := ⟨⟨by decide +kernel, by decide +kernel⟩, List.mem_of_getElem? (i := 704) (by decide +kernel), List.mem_of_getElem? (i := 866) (by decide +kernel), List.mem_of_getElem? (i := 867) (by decide +kernel)⟩
theorem lw_p38 : lw_okq (⟨"FasterForTheRichModel", "setCandle", "(II)V"⟩, 33) := ⟨⟨by decide +kernel, by decide +kernel⟩, List.mem_of_getElem? (i := 704) (by decide +kernel), List.mem_of_getElem? (i := 870) (by decide +kernel), List.mem_of_getElem? (i := 871) (by decide +kernel)⟩
theorem lw_p39 : lw_okq (⟨"FasterForTheRichModel", "areTwo", "(II)Z"⟩, 33) := ⟨⟨by decide +kernel, by decide +kernel⟩, List.mem_of_getElem? (i := 704) (by decide +kernel), List.mem_of_getElem? (i := 874) (by decide +kernel), List.mem_of_getElem? (i := 875) (by decide +kernel)⟩
theorem lw_p40 : lw_okq (⟨"FasterForTheRichModel", "goNight", "(I)V"⟩, 33) := ⟨⟨by decide +kernel, by decide +kernel⟩, List.mem_of_getElem? (i := 704) (by decide +kernel), List.mem_of_getElem? (i := 879) (by decide +kernel), List.mem_of_getElem? (i := 880) (by decide +kernel)⟩
theorem lw_p41 : lw_okq (⟨"FasterForTheRichModel", "goHours", "(I)V"⟩, 33) := ⟨⟨by decide +kernel, by decide +kernel⟩, List.mem_of_getElem? (i := 704) (by decide +kernel), List.mem_of_getElem? (i := 886) (by decide +kernel), List.mem_of_getElem? (i := 887) (by decide +kernel)⟩
theorem lw_p42 : lw_okq (⟨"FasterForTheRichModel", "hourOn", "()V"⟩, 33) := ⟨⟨by decide +kernel, by decide +kernel⟩, List.mem_of_getElem? (i := 704) (by decide +kernel), List.mem_of_getElem? (i := 890) (by decide +kernel), List.mem_of_getElem? (i := 891) (by decide +kernel)⟩
theorem lw_p43 : lw_okq (⟨"FasterForTheRichModel", "burnsOf", "(I)I"⟩, 33) := ⟨⟨by decide +kernel, by decide +kernel⟩, List.mem_of_getElem? (i := 704) (by decide +kernel), List.mem_of_getElem? (i := 894) (by decide +kernel), List.mem_of_getElem? (i := 895) (by decide +kernel)⟩
theorem lw_p44 : lw_okq (⟨"FasterForTheRichModel", "wealthOf", "(I)I"⟩, 33) := ⟨⟨by decide +kernel, by decide +kernel⟩, List.mem_of_getElem? (i := 704) (by decide +kernel), List.mem_of_getElem? (i := 898) (by decide +kernel), List.mem_of_getElem? (i := 899) (by decide +kernel)⟩
theorem lw_p45 : lw_okq (⟨"FasterForTheRichModel", "isHonest", "(I)Z"⟩, 33) := ⟨⟨by decide +kernel, by decide +kernel⟩, List.mem_of_getElem? (i := 704) (by decide +kernel), List.mem_of_getElem? (i := 902) (by decide +kernel), List.mem_of_getElem? (i := 903) (by decide +kernel)⟩
theorem lw_p46 : lw_okq (⟨"FasterForTheRichModel", "again", "()V"⟩, 33) := ⟨⟨by decide +kernel, by decide +kernel⟩, List.mem_of_getElem? (i := 704) (by decide +kernel), List.mem_of_getElem? (i := 906) (by decide +kernel), List.mem_of_getElem? (i := 907) (by decide +kernel)⟩
theorem lw_p47 : lw_okq (⟨"FasterForTheRichModel", "keepTurn", "()V"⟩, 33) := ⟨⟨by decide +kernel, by decide +kernel⟩, List.mem_of_getElem? (i := 704) (by decide +kernel), List.mem_of_getElem? (i := 942) (by decide +kernel), List.mem_of_getElem? (i := 943) (by decide +kernel)⟩
def lw_privs_3 : List (MethodName × Nat) := [(⟨"FasterForTheRichModel", "think", "()V"⟩, 33), (⟨"FasterForTheRichModel", "carryAll", "([IZ)V"⟩, 33), (⟨"FasterForTheRichModel", "carry", "(I)I"⟩, 33), (⟨"FasterForTheRichModel", "comesTold", "(I)Z"⟩, 33), (⟨"FasterForTheRichModel", "oneComes", "(III)V"⟩, 33), (⟨"FasterForTheRichModel", "isOne", "(I)Z"⟩, 33), (⟨"FasterForTheRichModel", "setCandle", "(II)V"⟩, 33), (⟨"FasterForTheRichModel", "areTwo", "(II)Z"⟩, 33), (⟨"FasterForTheRichModel", "goNight", "(I)V"⟩, 33), (⟨"FasterForTheRichModel", "goHours", "(I)V"⟩, 33), (⟨"FasterForTheRichModel", "hourOn", "()V"⟩, 33), (⟨"FasterForTheRichModel", "burnsOf", "(I)I"⟩, 33), (⟨"FasterForTheRichModel", "wealthOf", "(I)I"⟩, 33), (⟨"FasterForTheRichModel", "isHonest", "(I)Z"⟩, 33), (⟨"FasterForTheRichModel", "again", "()V"⟩, 33), (⟨"FasterForTheRichModel", "keepTurn", "()V"⟩, 33)]
theorem lw_r3 : ∀ q ∈ lw_privs_3, lw_okq q := List.forall_mem_cons.mpr ⟨lw_p32, List.forall_mem_cons.mpr ⟨lw_p33, List.forall_mem_cons.mpr ⟨lw_p34, List.forall_mem_cons.mpr ⟨lw_p35, List.forall_mem_cons.mpr ⟨lw_p36, List.forall_mem_cons.mpr ⟨lw_p37, List.forall_mem_cons.mpr ⟨lw_p38, List.forall_mem_cons.mpr ⟨lw_p39, List.forall_mem_cons.mpr ⟨lw_p40, List.forall_mem_cons.mpr ⟨lw_p41, List.forall_mem_cons.mpr ⟨lw_p42, List.forall_mem_cons.mpr ⟨lw_p43, List.forall_mem_cons.mpr ⟨lw_p44, List.forall_mem_cons.mpr ⟨lw_p45, List.forall_mem_cons.mpr ⟨lw_p46, List.forall_mem_cons.mpr ⟨lw_p47, fun _ h => absurd h List.not_mem_nil⟩⟩⟩⟩⟩⟩⟩⟩⟩⟩⟩⟩⟩⟩⟩⟩
theorem lw_p48 : lw_okq (⟨"FasterForTheRichModel", "litMany", "()I"⟩, 33) := ⟨⟨by decide +kernel, by decide +kernel⟩, List.mem_of_getElem? (i := 704) (by decide +kernel), List.mem_of_getElem? (i := 962) (by decide +kernel), List.mem_of_getElem? (i := 963) (by decide +kernel)⟩
theorem lw_p49 : lw_okq (⟨"FasterForTheRichModel", "allPages", "()I"⟩, 33) := ⟨⟨by decide +kernel, by decide +kernel⟩, List.mem_of_getElem? (i := 704) (by decide +kernel), List.mem_of_getElem? (i := 970) (by decide +kernel), List.mem_of_getElem? (i := 971) (by decide +kernel)⟩
theorem lw_p50 : lw_okq (⟨"FasterForTheRichModel", "lastsOf", "(I)I"⟩, 33) := ⟨⟨by decide +kernel, by decide +kernel⟩, List.mem_of_getElem? (i := 704) (by decide +kernel), List.mem_of_getElem? (i := 986) (by decide +kernel), List.mem_of_getElem? (i := 987) (by decide +kernel)⟩
theorem lw_p51 : lw_okq (⟨"FasterForTheRichModel", "darkIn", "()I"⟩, 33) := ⟨⟨by decide +kernel, by decide +kernel⟩, List.mem_of_getElem? (i := 704) (by decide +kernel), List.mem_of_getElem? (i := 995) (by decide +kernel), List.mem_of_getElem? (i := 996) (by decide +kernel)⟩
theorem lw_p52 : lw_okq (⟨"FasterForTheRichModel", "longestOne", "()I"⟩, 33) := ⟨⟨by decide +kernel, by decide +kernel⟩, List.mem_of_getElem? (i := 704) (by decide +kernel), List.mem_of_getElem? (i := 999) (by decide +kernel), List.mem_of_getElem? (i := 1000) (by decide +kernel)⟩
theorem lw_p53 : lw_okq (⟨"FasterForTheRichModel", "lastsBy", "(IIIZ)I"⟩, 33) := ⟨⟨by decide +kernel, by decide +kernel⟩, List.mem_of_getElem? (i := 704) (by decide +kernel), List.mem_of_getElem? (i := 1011) (by decide +kernel), List.mem_of_getElem? (i := 1012) (by decide +kernel)⟩
theorem lw_p54 : lw_okq (⟨"FasterForTheRichModel", "allHolds", "()I"⟩, 33) := ⟨⟨by decide +kernel, by decide +kernel⟩, List.mem_of_getElem? (i := 704) (by decide +kernel), List.mem_of_getElem? (i := 1032) (by decide +kernel), List.mem_of_getElem? (i := 1033) (by decide +kernel)⟩
theorem lw_p55 : lw_okq (⟨"FasterForTheRichModel", "readsWith", "(III)I"⟩, 33) := ⟨⟨by decide +kernel, by decide +kernel⟩, List.mem_of_getElem? (i := 704) (by decide +kernel), List.mem_of_getElem? (i := 1040) (by decide +kernel), List.mem_of_getElem? (i := 1041) (by decide +kernel)⟩
theorem lw_p56 : lw_okq (⟨"FasterForTheRichModel", "isRow", "(I)Z"⟩, 33) := ⟨⟨by decide +kernel, by decide +kernel⟩, List.mem_of_getElem? (i := 704) (by decide +kernel), List.mem_of_getElem? (i := 1064) (by decide +kernel), List.mem_of_getElem? (i := 1065) (by decide +kernel)⟩
theorem lw_p57 : lw_okq (⟨"FasterForTheRichModel", "lastsIn", "(IIIII)I"⟩, 33) := ⟨⟨by decide +kernel, by decide +kernel⟩, List.mem_of_getElem? (i := 704) (by decide +kernel), List.mem_of_getElem? (i := 1076) (by decide +kernel), List.mem_of_getElem? (i := 1077) (by decide +kernel)⟩
theorem lw_p58 : lw_okq (⟨"FasterForTheRichModel", "allCandles", "()I"⟩, 33) := ⟨⟨by decide +kernel, by decide +kernel⟩, List.mem_of_getElem? (i := 704) (by decide +kernel), List.mem_of_getElem? (i := 1098) (by decide +kernel), List.mem_of_getElem? (i := 1099) (by decide +kernel)⟩
theorem lw_p59 : lw_okq (⟨"FasterForTheRichModel", "allWealth", "()I"⟩, 33) := ⟨⟨by decide +kernel, by decide +kernel⟩, List.mem_of_getElem? (i := 704) (by decide +kernel), List.mem_of_getElem? (i := 1110) (by decide +kernel), List.mem_of_getElem? (i := 1111) (by decide +kernel)⟩
theorem lw_p60 : lw_okq (⟨"FasterForTheRichModel", "drawBelow", "(I)I"⟩, 33) := ⟨⟨by decide +kernel, by decide +kernel⟩, List.mem_of_getElem? (i := 704) (by decide +kernel), List.mem_of_getElem? (i := 1158) (by decide +kernel), List.mem_of_getElem? (i := 1159) (by decide +kernel)⟩
theorem lw_p61 : lw_okq (⟨"FasterForTheRichModel", "litBits", "()I"⟩, 33) := ⟨⟨by decide +kernel, by decide +kernel⟩, List.mem_of_getElem? (i := 704) (by decide +kernel), List.mem_of_getElem? (i := 1169) (by decide +kernel), List.mem_of_getElem? (i := 1170) (by decide +kernel)⟩
def lw_privs_4 : List (MethodName × Nat) := [(⟨"FasterForTheRichModel", "litMany", "()I"⟩, 33), (⟨"FasterForTheRichModel", "allPages", "()I"⟩, 33), (⟨"FasterForTheRichModel", "lastsOf", "(I)I"⟩, 33), (⟨"FasterForTheRichModel", "darkIn", "()I"⟩, 33), (⟨"FasterForTheRichModel", "longestOne", "()I"⟩, 33), (⟨"FasterForTheRichModel", "lastsBy", "(IIIZ)I"⟩, 33), (⟨"FasterForTheRichModel", "allHolds", "()I"⟩, 33), (⟨"FasterForTheRichModel", "readsWith", "(III)I"⟩, 33), (⟨"FasterForTheRichModel", "isRow", "(I)Z"⟩, 33), (⟨"FasterForTheRichModel", "lastsIn", "(IIIII)I"⟩, 33), (⟨"FasterForTheRichModel", "allCandles", "()I"⟩, 33), (⟨"FasterForTheRichModel", "allWealth", "()I"⟩, 33), (⟨"FasterForTheRichModel", "drawBelow", "(I)I"⟩, 33), (⟨"FasterForTheRichModel", "litBits", "()I"⟩, 33)]
theorem lw_r4 : ∀ q ∈ lw_privs_4, lw_okq q := List.forall_mem_cons.mpr ⟨lw_p48, List.forall_mem_cons.mpr ⟨lw_p49, List.forall_mem_cons.mpr ⟨lw_p50, List.forall_mem_cons.mpr ⟨lw_p51, List.forall_mem_cons.mpr ⟨lw_p52, List.forall_mem_cons.mpr ⟨lw_p53, List.forall_mem_cons.mpr ⟨lw_p54, List.forall_mem_cons.mpr ⟨lw_p55, List.forall_mem_cons.mpr ⟨lw_p56, List.forall_mem_cons.mpr ⟨lw_p57, List.forall_mem_cons.mpr ⟨lw_p58, List.forall_mem_cons.mpr ⟨lw_p59, List.forall_mem_cons.mpr ⟨lw_p60, List.forall_mem_cons.mpr ⟨lw_p61, fun _ h => absurd h List.not_mem_nil⟩⟩⟩⟩⟩⟩⟩⟩⟩⟩⟩⟩⟩⟩
def lw_privs : List (MethodName × Nat) := lw_privs_1 ++ (lw_privs_2 ++ (lw_privs_3 ++ (lw_privs_4)))
def lw_tbl : List Cond := k2_sels lw_privs ++ tables_1
theorem lw_privs_ok : ∀ q ∈ lw_privs, lw_okq q := by
  show ∀ q ∈ lw_privs_1 ++ (lw_privs_2 ++ (lw_privs_3 ++ (lw_privs_4))), lw_okq q
  exact List.forall_mem_append.mpr ⟨lw_r1, List.forall_mem_append.mpr ⟨lw_r2, List.forall_mem_append.mpr ⟨lw_r3, lw_r4⟩⟩⟩

def RX0 : String := "FasterForTheRich$History"
def TX0 : u_T := fun k => match k with
  | 0 => ("FasterForTheRich$History", "kept", "[LFasterForTheRich$Town;", true)
  | 1 => ("FasterForTheRich$History", "oldest", "I", false)
  | _ => ("FasterForTheRich$History", "size", "I", false)
def tyX0 : Nat → FieldType := fun k => match k with
  | 0 => .array (.object "FasterForTheRich$Town")
  | 1 => .int
  | _ => .int
abbrev wsX00 : List Cond := u_ws RX0 TX0 3
theorem nmX0 : ∀ a, a < 3 → ∀ b, b < 3 → a ≠ b → (TX0 a).2.1 ≠ (TX0 b).2.1 := by decide +kernel
theorem tyX0_ok : ∀ k, k < 3 → parseFieldDescriptor (TX0 k).2.2.1 = some (tyX0 k) := by decide +kernel
abbrev cX0_init : ByteArray := prog_2_method_1_code
def yX0_init : MethodName := ⟨RX0, "<init>", "()V"⟩
abbrev cX0_size : ByteArray := prog_2_method_2_code
def yX0_size : MethodName := ⟨RX0, "size", "()I"⟩
abbrev cX0_forget : ByteArray := prog_2_method_3_code
def yX0_forget : MethodName := ⟨RX0, "forget", "()V"⟩
abbrev cX0_keep : ByteArray := prog_2_method_4_code
def yX0_keep : MethodName := ⟨RX0, "keep", "(LFasterForTheRich$Town;)V"⟩
abbrev cX0_takeBack : ByteArray := prog_2_method_5_code
def yX0_takeBack : MethodName := ⟨RX0, "takeBack", "(LFasterForTheRich$Town;)V"⟩
def RX1 : String := "FasterForTheRich$Kinds"
def TX1 : u_T := fun k => match k with
  | _ => ("", "", "", false)
def tyX1 : Nat → FieldType := fun k => match k with
  | _ => .int
abbrev wsX10 : List Cond := u_ws RX1 TX1 0
theorem nmX1 : ∀ a, a < 0 → ∀ b, b < 0 → a ≠ b → (TX1 a).2.1 ≠ (TX1 b).2.1 := by decide +kernel
theorem tyX1_ok : ∀ k, k < 0 → parseFieldDescriptor (TX1 k).2.2.1 = some (tyX1 k) := by decide +kernel
abbrev cX1_wealth : ByteArray := prog_3_method_2_code
def yX1_wealth : MethodName := ⟨RX1, "wealth", "(IIII)I"⟩
abbrev cX1_burns : ByteArray := prog_3_method_3_code
def yX1_burns : MethodName := ⟨RX1, "burns", "(II)I"⟩
abbrev cX1_honest : ByteArray := prog_3_method_4_code
def yX1_honest : MethodName := ⟨RX1, "honest", "(II)Z"⟩
def RX2 : String := "FasterForTheRich$Letters"
def TX2 : u_T := fun k => match k with
  | 0 => ("FasterForTheRich$Numbers", "numbers", "[I", true)
  | _ => ("FasterForTheRich$Numbers", "size", "I", false)
def tyX2 : Nat → FieldType := fun k => match k with
  | 0 => .array .int
  | _ => .int
abbrev wsX20 : List Cond := u_ws RX2 TX2 2
theorem nmX2 : ∀ a, a < 2 → ∀ b, b < 2 → a ≠ b → (TX2 a).2.1 ≠ (TX2 b).2.1 := by decide +kernel
theorem tyX2_ok : ∀ k, k < 2 → parseFieldDescriptor (TX2 k).2.2.1 = some (tyX2 k) := by decide +kernel
abbrev cX2_init : ByteArray := prog_4_method_1_code
def yX2_init : MethodName := ⟨RX2, "<init>", "()V"⟩
abbrev cX2_faultOfForm : ByteArray := prog_4_method_2_code
def yX2_faultOfForm : MethodName := ⟨RX2, "faultOfForm", "()I"⟩
abbrev cX2_dueBehind : ByteArray := prog_4_method_3_code
def yX2_dueBehind : MethodName := ⟨RX2, "dueBehind", "(II)I"⟩
abbrev cX2_digitsOf : ByteArray := prog_4_method_4_code
def yX2_digitsOf : MethodName := ⟨RX2, "digitsOf", "(I)I"⟩
abbrev cX2_tellTo : ByteArray := prog_4_method_5_code
def yX2_tellTo : MethodName := ⟨RX2, "tellTo", "(LFasterForTheRich$Town;)I"⟩
abbrev cX2_comes : ByteArray := prog_4_method_6_code
def yX2_comes : MethodName := ⟨RX2, "comes", "(LFasterForTheRich$Town;I)Z"⟩
abbrev cX2_comesPerson : ByteArray := prog_4_method_7_code
def yX2_comesPerson : MethodName := ⟨RX2, "comesPerson", "(LFasterForTheRich$Town;III)Z"⟩
abbrev cX2_comesHides : ByteArray := prog_4_method_8_code
def yX2_comesHides : MethodName := ⟨RX2, "comesHides", "(LFasterForTheRich$Town;II)Z"⟩
abbrev cX2_comesCandle : ByteArray := prog_4_method_9_code
def yX2_comesCandle : MethodName := ⟨RX2, "comesCandle", "(LFasterForTheRich$Town;II)Z"⟩
abbrev cX2_comesCousin : ByteArray := prog_4_method_10_code
def yX2_comesCousin : MethodName := ⟨RX2, "comesCousin", "(LFasterForTheRich$Town;II)Z"⟩
abbrev cX2_comesLight : ByteArray := prog_4_method_11_code
def yX2_comesLight : MethodName := ⟨RX2, "comesLight", "(LFasterForTheRich$Town;I)Z"⟩
abbrev cX2_digit : ByteArray := prog_4_method_12_code
def yX2_digit : MethodName := ⟨RX2, "digit", "(I)I"⟩
abbrev cX2_twoDigits : ByteArray := prog_4_method_13_code
def yX2_twoDigits : MethodName := ⟨RX2, "twoDigits", "(I)I"⟩
def RX3 : String := "FasterForTheRich$Numbers"
def TX3 : u_T := fun k => match k with
  | _ => ("", "", "", false)
def tyX3 : Nat → FieldType := fun k => match k with
  | _ => .int
abbrev wsX30 : List Cond := u_ws RX3 TX3 0
theorem nmX3 : ∀ a, a < 0 → ∀ b, b < 0 → a ≠ b → (TX3 a).2.1 ≠ (TX3 b).2.1 := by decide +kernel
theorem tyX3_ok : ∀ k, k < 0 → parseFieldDescriptor (TX3 k).2.2.1 = some (tyX3 k) := by decide +kernel
abbrev cX3_init : ByteArray := prog_5_method_1_code
def yX3_init : MethodName := ⟨RX3, "<init>", "(I)V"⟩
abbrev cX3_size : ByteArray := prog_5_method_2_code
def yX3_size : MethodName := ⟨RX3, "size", "()I"⟩
abbrev cX3_isFull : ByteArray := prog_5_method_3_code
def yX3_isFull : MethodName := ⟨RX3, "isFull", "()Z"⟩
abbrev cX3_forget : ByteArray := prog_5_method_4_code
def yX3_forget : MethodName := ⟨RX3, "forget", "()V"⟩
abbrev cX3_append : ByteArray := prog_5_method_5_code
def yX3_append : MethodName := ⟨RX3, "append", "(I)I"⟩
def RX4 : String := "FasterForTheRich$Row"
def TX4 : u_T := fun k => match k with
  | 0 => ("FasterForTheRich$Numbers", "numbers", "[I", true)
  | _ => ("FasterForTheRich$Numbers", "size", "I", false)
def tyX4 : Nat → FieldType := fun k => match k with
  | 0 => .array .int
  | _ => .int
abbrev wsX40 : List Cond := u_ws RX4 TX4 2
theorem nmX4 : ∀ a, a < 2 → ∀ b, b < 2 → a ≠ b → (TX4 a).2.1 ≠ (TX4 b).2.1 := by decide +kernel
theorem tyX4_ok : ∀ k, k < 2 → parseFieldDescriptor (TX4 k).2.2.1 = some (tyX4 k) := by decide +kernel
abbrev cX4_init : ByteArray := prog_6_method_1_code
def yX4_init : MethodName := ⟨RX4, "<init>", "()V"⟩
abbrev cX4_fits : ByteArray := prog_6_method_2_code
def yX4_fits : MethodName := ⟨RX4, "fits", "(II)Z"⟩
abbrev cX4_firstUnlike : ByteArray := prog_6_method_3_code
def yX4_firstUnlike : MethodName := ⟨RX4, "firstUnlike", "([II)I"⟩
def RX5 : String := "FasterForTheRich$Town"
def TX5 : u_T := fun k => match k with
  | 0 => ("FasterForTheRich$Town", "kind", "[I", true)
  | 1 => ("FasterForTheRich$Town", "figure", "[I", true)
  | 2 => ("FasterForTheRich$Town", "holds", "[I", true)
  | 3 => ("FasterForTheRich$Town", "hides", "[I", true)
  | 4 => ("FasterForTheRich$Town", "candle", "[I", true)
  | 5 => ("FasterForTheRich$Town", "lit", "[Z", true)
  | 6 => ("FasterForTheRich$Town", "pages", "[I", true)
  | 7 => ("FasterForTheRich$Town", "cousin", "[I", true)
  | 8 => ("FasterForTheRich$Town", "gave", "[I", true)
  | 9 => ("FasterForTheRich$Town", "people", "I", false)
  | _ => ("FasterForTheRich$Town", "hour", "I", false)
def tyX5 : Nat → FieldType := fun k => match k with
  | 0 => .array .int
  | 1 => .array .int
  | 2 => .array .int
  | 3 => .array .int
  | 4 => .array .int
  | 5 => .array .boolean
  | 6 => .array .int
  | 7 => .array .int
  | 8 => .array .int
  | 9 => .int
  | _ => .int
abbrev wsX50 : List Cond := u_ws RX5 TX5 11
theorem nmX5 : ∀ a, a < 11 → ∀ b, b < 11 → a ≠ b → (TX5 a).2.1 ≠ (TX5 b).2.1 := by decide +kernel
theorem tyX5_ok : ∀ k, k < 11 → parseFieldDescriptor (TX5 k).2.2.1 = some (tyX5 k) := by decide +kernel
abbrev cX5_init : ByteArray := prog_7_method_1_code
def yX5_init : MethodName := ⟨RX5, "<init>", "()V"⟩
abbrev cX5_become : ByteArray := prog_7_method_2_code
def yX5_become : MethodName := ⟨RX5, "become", "(LFasterForTheRich$Town;)V"⟩
abbrev cX5_has : ByteArray := prog_7_method_3_code
def yX5_has : MethodName := ⟨RX5, "has", "(I)Z"⟩
abbrev cX5_isFull : ByteArray := prog_7_method_4_code
def yX5_isFull : MethodName := ⟨RX5, "isFull", "()Z"⟩
abbrev cX5_hasTimeFor : ByteArray := prog_7_method_5_code
def yX5_hasTimeFor : MethodName := ⟨RX5, "hasTimeFor", "(I)Z"⟩
abbrev cX5_add : ByteArray := prog_7_method_6_code
def yX5_add : MethodName := ⟨RX5, "add", "(III)V"⟩
abbrev cX5_putCandle : ByteArray := prog_7_method_7_code
def yX5_putCandle : MethodName := ⟨RX5, "putCandle", "(II)V"⟩
abbrev cX5_turnCousin : ByteArray := prog_7_method_8_code
def yX5_turnCousin : MethodName := ⟨RX5, "turnCousin", "(II)V"⟩
abbrev cX5_holdsWithMore : ByteArray := prog_7_method_9_code
def yX5_holdsWithMore : MethodName := ⟨RX5, "holdsWithMore", "(II)I"⟩
abbrev cX5_wealthOf : ByteArray := prog_7_method_10_code
def yX5_wealthOf : MethodName := ⟨RX5, "wealthOf", "(I)I"⟩
abbrev cX5_burnsOf : ByteArray := prog_7_method_11_code
def yX5_burnsOf : MethodName := ⟨RX5, "burnsOf", "(I)I"⟩
abbrev cX5_burnsHolding : ByteArray := prog_7_method_12_code
def yX5_burnsHolding : MethodName := ⟨RX5, "burnsHolding", "(II)I"⟩
abbrev cX5_lastsOf : ByteArray := prog_7_method_13_code
def yX5_lastsOf : MethodName := ⟨RX5, "lastsOf", "(I)I"⟩
abbrev cX5_lastsWithMore : ByteArray := prog_7_method_14_code
def yX5_lastsWithMore : MethodName := ⟨RX5, "lastsWithMore", "(II)I"⟩
abbrev cX5_lastsHolding : ByteArray := prog_7_method_15_code
def yX5_lastsHolding : MethodName := ⟨RX5, "lastsHolding", "(II)I"⟩
abbrev cX5_isHonest : ByteArray := prog_7_method_16_code
def yX5_isHonest : MethodName := ⟨RX5, "isHonest", "(I)Z"⟩
abbrev cX5_passHour : ByteArray := prog_7_method_17_code
def yX5_passHour : MethodName := ⟨RX5, "passHour", "()V"⟩
abbrev cX5_passHours : ByteArray := prog_7_method_18_code
def yX5_passHours : MethodName := ⟨RX5, "passHours", "(I)V"⟩
abbrev cX5_passNight : ByteArray := prog_7_method_19_code
def yX5_passNight : MethodName := ⟨RX5, "passNight", "(I)V"⟩
abbrev cX5_dusk : ByteArray := prog_7_method_20_code
def yX5_dusk : MethodName := ⟨RX5, "dusk", "()V"⟩
abbrev cX5_dawn : ByteArray := prog_7_method_21_code
def yX5_dawn : MethodName := ⟨RX5, "dawn", "()V"⟩
abbrev cX5_howManyLit : ByteArray := prog_7_method_22_code
def yX5_howManyLit : MethodName := ⟨RX5, "howManyLit", "()I"⟩
abbrev cX5_litOnes : ByteArray := prog_7_method_23_code
def yX5_litOnes : MethodName := ⟨RX5, "litOnes", "()I"⟩
abbrev cX5_howManyDark : ByteArray := prog_7_method_24_code
def yX5_howManyDark : MethodName := ⟨RX5, "howManyDark", "()I"⟩
abbrev cX5_allHolds : ByteArray := prog_7_method_25_code
def yX5_allHolds : MethodName := ⟨RX5, "allHolds", "()I"⟩
abbrev cX5_allCandles : ByteArray := prog_7_method_26_code
def yX5_allCandles : MethodName := ⟨RX5, "allCandles", "()I"⟩
abbrev cX5_allPages : ByteArray := prog_7_method_27_code
def yX5_allPages : MethodName := ⟨RX5, "allPages", "()I"⟩
abbrev cX5_sumOf : ByteArray := prog_7_method_28_code
def yX5_sumOf : MethodName := ⟨RX5, "sumOf", "([I)I"⟩
def RX6 : String := "FasterForTheRich"
def TX6 : u_T := fun k => match k with
  | 0 => ("FasterForTheRich", "now", "LFasterForTheRich$Town;", true)
  | 1 => ("FasterForTheRich", "mind", "LFasterForTheRich$Town;", true)
  | 2 => ("FasterForTheRich", "image", "LFasterForTheRich$Town;", true)
  | 3 => ("FasterForTheRich", "imageTaken", "Z", false)
  | 4 => ("FasterForTheRich", "history", "LFasterForTheRich$History;", true)
  | 5 => ("FasterForTheRich", "letters", "LFasterForTheRich$Letters;", true)
  | 6 => ("FasterForTheRich", "row", "LFasterForTheRich$Row;", true)
  | _ => ("FasterForTheRich", "refusals", "[I", true)
def tyX6 : Nat → FieldType := fun k => match k with
  | 0 => .object "FasterForTheRich$Town"
  | 1 => .object "FasterForTheRich$Town"
  | 2 => .object "FasterForTheRich$Town"
  | 3 => .boolean
  | 4 => .object "FasterForTheRich$History"
  | 5 => .object "FasterForTheRich$Letters"
  | 6 => .object "FasterForTheRich$Row"
  | _ => .array .int
abbrev wsX60 : List Cond := u_ws RX6 TX6 8
theorem nmX6 : ∀ a, a < 8 → ∀ b, b < 8 → a ≠ b → (TX6 a).2.1 ≠ (TX6 b).2.1 := by decide +kernel
theorem tyX6_ok : ∀ k, k < 8 → parseFieldDescriptor (TX6 k).2.2.1 = some (tyX6 k) := by decide +kernel
abbrev cX6_init : ByteArray := prog_1_method_1_code
def yX6_init : MethodName := ⟨RX6, "<init>", "()V"⟩
abbrev cX6_feed : ByteArray := prog_1_method_2_code
def yX6_feed : MethodName := ⟨RX6, "feed", "(I)I"⟩
abbrev cX6_town : ByteArray := prog_1_method_3_code
def yX6_town : MethodName := ⟨RX6, "town", "()I"⟩
abbrev cX6_personOf : ByteArray := prog_1_method_4_code
def yX6_personOf : MethodName := ⟨RX6, "personOf", "(II)I"⟩
abbrev cX6_person : ByteArray := prog_1_method_5_code
def yX6_person : MethodName := ⟨RX6, "person", "(III)I"⟩
abbrev cX6_sets : ByteArray := prog_1_method_6_code
def yX6_sets : MethodName := ⟨RX6, "sets", "(III)I"⟩
abbrev cX6_trusts : ByteArray := prog_1_method_7_code
def yX6_trusts : MethodName := ⟨RX6, "trusts", "(II)I"⟩
abbrev cX6_lights : ByteArray := prog_1_method_8_code
def yX6_lights : MethodName := ⟨RX6, "lights", "(I)I"⟩
abbrev cX6_gives : ByteArray := prog_1_method_9_code
def yX6_gives : MethodName := ⟨RX6, "gives", "(III)I"⟩
abbrev cX6_hours : ByteArray := prog_1_method_10_code
def yX6_hours : MethodName := ⟨RX6, "hours", "(I)I"⟩
abbrev cX6_nights : ByteArray := prog_1_method_11_code
def yX6_nights : MethodName := ⟨RX6, "nights", "(I)I"⟩
abbrev cX6_back : ByteArray := prog_1_method_12_code
def yX6_back : MethodName := ⟨RX6, "back", "()I"⟩
abbrev cX6_behind : ByteArray := prog_1_method_13_code
def yX6_behind : MethodName := ⟨RX6, "behind", "(III)I"⟩
abbrev cX6_all : ByteArray := prog_1_method_14_code
def yX6_all : MethodName := ⟨RX6, "all", "(II)I"⟩
abbrev cX6_lasts : ByteArray := prog_1_method_15_code
def yX6_lasts : MethodName := ⟨RX6, "lasts", "(I)I"⟩
abbrev cX6_longest : ByteArray := prog_1_method_16_code
def yX6_longest : MethodName := ⟨RX6, "longest", "(I)I"⟩
abbrev cX6_whoLastsLongest : ByteArray := prog_1_method_17_code
def yX6_whoLastsLongest : MethodName := ⟨RX6, "whoLastsLongest", "()I"⟩
abbrev cX6_hoursTillDark : ByteArray := prog_1_method_18_code
def yX6_hoursTillDark : MethodName := ⟨RX6, "hoursTillDark", "()I"⟩
abbrev cX6_whoGutters : ByteArray := prog_1_method_19_code
def yX6_whoGutters : MethodName := ⟨RX6, "whoGutters", "()I"⟩
abbrev cX6_give : ByteArray := prog_1_method_20_code
def yX6_give : MethodName := ⟨RX6, "give", "(III)I"⟩
abbrev cX6_bestFriend : ByteArray := prog_1_method_21_code
def yX6_bestFriend : MethodName := ⟨RX6, "bestFriend", "(II)I"⟩
abbrev cX6_lastsTogether : ByteArray := prog_1_method_22_code
def yX6_lastsTogether : MethodName := ⟨RX6, "lastsTogether", "(II)I"⟩
abbrev cX6_both : ByteArray := prog_1_method_23_code
def yX6_both : MethodName := ⟨RX6, "both", "(III)I"⟩
abbrev cX6_borrow : ByteArray := prog_1_method_24_code
def yX6_borrow : MethodName := ⟨RX6, "borrow", "(I)I"⟩
abbrev cX6_night : ByteArray := prog_1_method_25_code
def yX6_night : MethodName := ⟨RX6, "night", "(III)I"⟩
abbrev cX6_nightOfAll : ByteArray := prog_1_method_26_code
def yX6_nightOfAll : MethodName := ⟨RX6, "nightOfAll", "(II)I"⟩
abbrev cX6_trust : ByteArray := prog_1_method_27_code
def yX6_trust : MethodName := ⟨RX6, "trust", "(II)I"⟩
abbrev cX6_pagesTrusting : ByteArray := prog_1_method_28_code
def yX6_pagesTrusting : MethodName := ⟨RX6, "pagesTrusting", "(III)I"⟩
abbrev cX6_nightTrusting : ByteArray := prog_1_method_29_code
def yX6_nightTrusting : MethodName := ⟨RX6, "nightTrusting", "(III)V"⟩
abbrev cX6_safe : ByteArray := prog_1_method_30_code
def yX6_safe : MethodName := ⟨RX6, "safe", "(II)I"⟩
abbrev cX6_losesNothing : ByteArray := prog_1_method_31_code
def yX6_losesNothing : MethodName := ⟨RX6, "losesNothing", "(III)Z"⟩
abbrev cX6_relay : ByteArray := prog_1_method_32_code
def yX6_relay : MethodName := ⟨RX6, "relay", "(I)I"⟩
abbrev cX6_tax : ByteArray := prog_1_method_33_code
def yX6_tax : MethodName := ⟨RX6, "tax", "(II)I"⟩
abbrev cX6_hide : ByteArray := prog_1_method_34_code
def yX6_hide : MethodName := ⟨RX6, "hide", "(I)I"⟩
abbrev cX6_shares : ByteArray := prog_1_method_35_code
def yX6_shares : MethodName := ⟨RX6, "shares", "(I)I"⟩
abbrev cX6_whatHeHolds : ByteArray := prog_1_method_36_code
def yX6_whatHeHolds : MethodName := ⟨RX6, "whatHeHolds", "(II)I"⟩
abbrev cX6_holdsFit : ByteArray := prog_1_method_37_code
def yX6_holdsFit : MethodName := ⟨RX6, "holdsFit", "(II)Z"⟩
abbrev cX6_howManyHoldsFit : ByteArray := prog_1_method_38_code
def yX6_howManyHoldsFit : MethodName := ⟨RX6, "howManyHoldsFit", "(I)I"⟩
abbrev cX6_leastHoldsFit : ByteArray := prog_1_method_39_code
def yX6_leastHoldsFit : MethodName := ⟨RX6, "leastHoldsFit", "(I)I"⟩
abbrev cX6_kindsFit : ByteArray := prog_1_method_40_code
def yX6_kindsFit : MethodName := ⟨RX6, "kindsFit", "(I)I"⟩
abbrev cX6_figuresFit : ByteArray := prog_1_method_41_code
def yX6_figuresFit : MethodName := ⟨RX6, "figuresFit", "(I)I"⟩
abbrev cX6_whoGave : ByteArray := prog_1_method_42_code
def yX6_whoGave : MethodName := ⟨RX6, "whoGave", "(I)I"⟩
abbrev cX6_halve : ByteArray := prog_1_method_43_code
def yX6_halve : MethodName := ⟨RX6, "halve", "(II)I"⟩
abbrev cX6_keepsTo : ByteArray := prog_1_method_44_code
def yX6_keepsTo : MethodName := ⟨RX6, "keepsTo", "(IIII)Z"⟩
abbrev cX6_lastsHalving : ByteArray := prog_1_method_45_code
def yX6_lastsHalving : MethodName := ⟨RX6, "lastsHalving", "(IIII)I"⟩
abbrev cX6_draft : ByteArray := prog_1_method_46_code
def yX6_draft : MethodName := ⟨RX6, "draft", "(IIII)J"⟩
abbrev cX6_waysWithLight : ByteArray := prog_1_method_47_code
def yX6_waysWithLight : MethodName := ⟨RX6, "waysWithLight", "(III)J"⟩
abbrev cX6_power : ByteArray := prog_1_method_48_code
def yX6_power : MethodName := ⟨RX6, "power", "(II)J"⟩
abbrev cX6_partOf : ByteArray := prog_1_method_49_code
def yX6_partOf : MethodName := ⟨RX6, "partOf", "(JJI)J"⟩
abbrev cX6_richest : ByteArray := prog_1_method_50_code
def yX6_richest : MethodName := ⟨RX6, "richest", "(I)I"⟩
abbrev cX6_isFurther : ByteArray := prog_1_method_51_code
def yX6_isFurther : MethodName := ⟨RX6, "isFurther", "(III)Z"⟩
abbrev cX6_mean : ByteArray := prog_1_method_52_code
def yX6_mean : MethodName := ⟨RX6, "mean", "(I)J"⟩
abbrev cX6_apart : ByteArray := prog_1_method_53_code
def yX6_apart : MethodName := ⟨RX6, "apart", "()I"⟩
abbrev cX6_above : ByteArray := prog_1_method_54_code
def yX6_above : MethodName := ⟨RX6, "above", "(I)I"⟩
abbrev cX6_ring : ByteArray := prog_1_method_55_code
def yX6_ring : MethodName := ⟨RX6, "ring", "(I)I"⟩
abbrev cX6_trusted : ByteArray := prog_1_method_56_code
def yX6_trusted : MethodName := ⟨RX6, "trusted", "(I)I"⟩
abbrev cX6_unlit : ByteArray := prog_1_method_57_code
def yX6_unlit : MethodName := ⟨RX6, "unlit", "()I"⟩
abbrev cX6_gap : ByteArray := prog_1_method_58_code
def yX6_gap : MethodName := ⟨RX6, "gap", "(I)I"⟩
abbrev cX6_pagesByCandle : ByteArray := prog_1_method_59_code
def yX6_pagesByCandle : MethodName := ⟨RX6, "pagesByCandle", "(III)I"⟩
abbrev cX6_same : ByteArray := prog_1_method_60_code
def yX6_same : MethodName := ⟨RX6, "same", "()I"⟩
abbrev cX6_row : ByteArray := prog_1_method_61_code
def yX6_row : MethodName := ⟨RX6, "row", "(I)I"⟩
abbrev cX6_judge : ByteArray := prog_1_method_62_code
def yX6_judge : MethodName := ⟨RX6, "judge", "()I"⟩
abbrev cX6_clear : ByteArray := prog_1_method_63_code
def yX6_clear : MethodName := ⟨RX6, "clear", "()I"⟩
abbrev cX6_lots : ByteArray := prog_1_method_64_code
def yX6_lots : MethodName := ⟨RX6, "lots", "(III)I"⟩
abbrev cX6_image : ByteArray := prog_1_method_65_code
def yX6_image : MethodName := ⟨RX6, "image", "()I"⟩
abbrev cX6_restore : ByteArray := prog_1_method_66_code
def yX6_restore : MethodName := ⟨RX6, "restore", "()I"⟩
abbrev cX6_count : ByteArray := prog_1_method_67_code
def yX6_count : MethodName := ⟨RX6, "count", "(I)I"⟩
abbrev cX6_refuse : ByteArray := prog_1_method_68_code
def yX6_refuse : MethodName := ⟨RX6, "refuse", "(I)I"⟩
abbrev cX6_whyPerson : ByteArray := prog_1_method_69_code
def yX6_whyPerson : MethodName := ⟨RX6, "whyPerson", "(I)I"⟩
abbrev cX6_whyTwo : ByteArray := prog_1_method_70_code
def yX6_whyTwo : MethodName := ⟨RX6, "whyTwo", "(II)I"⟩
abbrev cX6_whyWhat : ByteArray := prog_1_method_71_code
def yX6_whyWhat : MethodName := ⟨RX6, "whyWhat", "(II)I"⟩
abbrev cX6_whyRange : ByteArray := prog_1_method_72_code
def yX6_whyRange : MethodName := ⟨RX6, "whyRange", "(III)I"⟩
abbrev cX6_whyHour : ByteArray := prog_1_method_73_code
def yX6_whyHour : MethodName := ⟨RX6, "whyHour", "(I)I"⟩
abbrev cX6_first : ByteArray := prog_1_method_74_code
def yX6_first : MethodName := ⟨RX6, "first", "(II)I"⟩
abbrev cX6_first_ : ByteArray := prog_1_method_75_code
def yX6_first_ : MethodName := ⟨RX6, "first", "(III)I"⟩
abbrev cX6_bit : ByteArray := prog_1_method_76_code
def yX6_bit : MethodName := ⟨RX6, "bit", "(Z)I"⟩
def RX7 : String := "FasterForTheRichModel"
def TX7 : u_T := fun k => match k with
  | 0 => ("FasterForTheRichModel", "people", "I", false)
  | 1 => ("FasterForTheRichModel", "kinds", "[I", true)
  | 2 => ("FasterForTheRichModel", "figures", "[I", true)
  | 3 => ("FasterForTheRichModel", "holds0", "[I", true)
  | 4 => ("FasterForTheRichModel", "hides0", "[I", true)
  | 5 => ("FasterForTheRichModel", "candles", "[I", true)
  | 6 => ("FasterForTheRichModel", "lit0", "[I", true)
  | 7 => ("FasterForTheRichModel", "pages0", "[I", true)
  | 8 => ("FasterForTheRichModel", "cousins", "[I", true)
  | 9 => ("FasterForTheRichModel", "hour0", "I", false)
  | 10 => ("FasterForTheRichModel", "thrown", "I", false)
  | 11 => ("FasterForTheRichModel", "refusals", "[I", true)
  | 12 => ("FasterForTheRichModel", "gave", "[I", true)
  | 13 => ("FasterForTheRichModel", "letters", "[I", true)
  | 14 => ("FasterForTheRichModel", "letterMany", "I", false)
  | 15 => ("FasterForTheRichModel", "at", "I", false)
  | 16 => ("FasterForTheRichModel", "isBad", "Z", false)
  | 17 => ("FasterForTheRichModel", "statements", "I", false)
  | 18 => ("FasterForTheRichModel", "placeIn", "[I", true)
  | 19 => ("FasterForTheRichModel", "letterOf", "[I", true)
  | 20 => ("FasterForTheRichModel", "told", "[I", true)
  | 21 => ("FasterForTheRichModel", "kept", "[I", true)
  | 22 => ("FasterForTheRichModel", "imaged", "[I", true)
  | 23 => ("FasterForTheRichModel", "hasImage", "Z", false)
  | 24 => ("FasterForTheRichModel", "place0", "I", false)
  | 25 => ("FasterForTheRichModel", "isTaking", "Z", false)
  | 26 => ("FasterForTheRichModel", "keptIn", "[I", false)
  | 27 => ("FasterForTheRichModel", "turns0", "[I", true)
  | 28 => ("FasterForTheRichModel", "turnOf", "[I", true)
  | 29 => ("FasterForTheRichModel", "turned", "I", false)
  | 30 => ("FasterForTheRichModel", "row", "[I", true)
  | 31 => ("FasterForTheRichModel", "rowMany", "I", false)
  | _ => ("FasterForTheRichModel", "seed", "I", false)
def tyX7 : Nat → FieldType := fun k => match k with
  | 0 => .int
  | 1 => .array .int
  | 2 => .array .int
  | 3 => .array .int
  | 4 => .array .int
  | 5 => .array .int
  | 6 => .array .int
  | 7 => .array .int
  | 8 => .array .int
  | 9 => .int
  | 10 => .int
  | 11 => .array .int
  | 12 => .array .int
  | 13 => .array .int
  | 14 => .int
  | 15 => .int
  | 16 => .boolean
  | 17 => .int
  | 18 => .array .int
  | 19 => .array .int
  | 20 => .array .int
  | 21 => .array .int
  | 22 => .array .int
  | 23 => .boolean
  | 24 => .int
  | 25 => .boolean
  | 26 => .array .int
  | 27 => .array .int
  | 28 => .array .int
  | 29 => .int
  | 30 => .array .int
  | 31 => .int
  | _ => .int
abbrev wsX70 : List Cond := u_ws RX7 TX7 33
theorem nmX7 : ∀ a, a < 33 → ∀ b, b < 33 → a ≠ b → (TX7 a).2.1 ≠ (TX7 b).2.1 := by decide +kernel
theorem tyX7_ok : ∀ k, k < 33 → parseFieldDescriptor (TX7 k).2.2.1 = some (tyX7 k) := by decide +kernel
abbrev cX7_init : ByteArray := prog_9_method_1_code
def yX7_init : MethodName := ⟨RX7, "<init>", "()V"⟩
abbrev cX7_in : ByteArray := prog_9_method_3_code
def yX7_in : MethodName := ⟨RX7, "in", "(JJJ)Z"⟩
abbrev cX7_refuse : ByteArray := prog_9_method_4_code
def yX7_refuse : MethodName := ⟨RX7, "refuse", "(I)I"⟩
abbrev cX7_isOne : ByteArray := prog_9_method_5_code
def yX7_isOne : MethodName := ⟨RX7, "isOne", "(I)Z"⟩
abbrev cX7_areTwo : ByteArray := prog_9_method_6_code
def yX7_areTwo : MethodName := ⟨RX7, "areTwo", "(II)Z"⟩
abbrev cX7_wrongNumber : ByteArray := prog_9_method_7_code
def yX7_wrongNumber : MethodName := ⟨RX7, "wrongNumber", "(III)I"⟩
abbrev cX7_wrongBit : ByteArray := prog_9_method_8_code
def yX7_wrongBit : MethodName := ⟨RX7, "wrongBit", "(III)I"⟩
abbrev cX7_hasBit : ByteArray := prog_9_method_9_code
def yX7_hasBit : MethodName := ⟨RX7, "hasBit", "(II)Z"⟩
abbrev cX7_least : ByteArray := prog_9_method_10_code
def yX7_least : MethodName := ⟨RX7, "least", "(II)I"⟩
abbrev cX7_wealthOf : ByteArray := prog_9_method_11_code
def yX7_wealthOf : MethodName := ⟨RX7, "wealthOf", "(I)I"⟩
abbrev cX7_burnsOf : ByteArray := prog_9_method_12_code
def yX7_burnsOf : MethodName := ⟨RX7, "burnsOf", "(I)I"⟩
abbrev cX7_isHonest : ByteArray := prog_9_method_13_code
def yX7_isHonest : MethodName := ⟨RX7, "isHonest", "(I)Z"⟩
abbrev cX7_lastsOf : ByteArray := prog_9_method_14_code
def yX7_lastsOf : MethodName := ⟨RX7, "lastsOf", "(I)I"⟩
abbrev cX7_hourOn : ByteArray := prog_9_method_15_code
def yX7_hourOn : MethodName := ⟨RX7, "hourOn", "()V"⟩
abbrev cX7_goHours : ByteArray := prog_9_method_16_code
def yX7_goHours : MethodName := ⟨RX7, "goHours", "(I)V"⟩
abbrev cX7_goNight : ByteArray := prog_9_method_17_code
def yX7_goNight : MethodName := ⟨RX7, "goNight", "(I)V"⟩
abbrev cX7_allHolds : ByteArray := prog_9_method_18_code
def yX7_allHolds : MethodName := ⟨RX7, "allHolds", "()I"⟩
abbrev cX7_allCandles : ByteArray := prog_9_method_19_code
def yX7_allCandles : MethodName := ⟨RX7, "allCandles", "()I"⟩
abbrev cX7_allPages : ByteArray := prog_9_method_20_code
def yX7_allPages : MethodName := ⟨RX7, "allPages", "()I"⟩
abbrev cX7_litBits : ByteArray := prog_9_method_21_code
def yX7_litBits : MethodName := ⟨RX7, "litBits", "()I"⟩
abbrev cX7_litMany : ByteArray := prog_9_method_22_code
def yX7_litMany : MethodName := ⟨RX7, "litMany", "()I"⟩
abbrev cX7_feed : ByteArray := prog_9_method_23_code
def yX7_feed : MethodName := ⟨RX7, "feed", "(I)I"⟩
abbrev cX7_here : ByteArray := prog_9_method_24_code
def yX7_here : MethodName := ⟨RX7, "here", "()I"⟩
abbrev cX7_readDigits : ByteArray := prog_9_method_25_code
def yX7_readDigits : MethodName := ⟨RX7, "readDigits", "(I)I"⟩
abbrev cX7_isLetter : ByteArray := prog_9_method_26_code
def yX7_isLetter : MethodName := ⟨RX7, "isLetter", "(I)Z"⟩
abbrev cX7_readNumbers : ByteArray := prog_9_method_27_code
def yX7_readNumbers : MethodName := ⟨RX7, "readNumbers", "(II)V"⟩
abbrev cX7_readStatement : ByteArray := prog_9_method_28_code
def yX7_readStatement : MethodName := ⟨RX7, "readStatement", "()V"⟩
abbrev cX7_oneComes : ByteArray := prog_9_method_29_code
def yX7_oneComes : MethodName := ⟨RX7, "oneComes", "(III)V"⟩
abbrev cX7_setCandle : ByteArray := prog_9_method_30_code
def yX7_setCandle : MethodName := ⟨RX7, "setCandle", "(II)V"⟩
abbrev cX7_comesTold : ByteArray := prog_9_method_31_code
def yX7_comesTold : MethodName := ⟨RX7, "comesTold", "(I)Z"⟩
abbrev cX7_town : ByteArray := prog_9_method_32_code
def yX7_town : MethodName := ⟨RX7, "town", "()I"⟩
abbrev cX7_carry : ByteArray := prog_9_method_33_code
def yX7_carry : MethodName := ⟨RX7, "carry", "(I)I"⟩
abbrev cX7_carryAll : ByteArray := prog_9_method_34_code
def yX7_carryAll : MethodName := ⟨RX7, "carryAll", "([IZ)V"⟩
abbrev cX7_think : ByteArray := prog_9_method_35_code
def yX7_think : MethodName := ⟨RX7, "think", "()V"⟩
abbrev cX7_again : ByteArray := prog_9_method_36_code
def yX7_again : MethodName := ⟨RX7, "again", "()V"⟩
abbrev cX7_image : ByteArray := prog_9_method_37_code
def yX7_image : MethodName := ⟨RX7, "image", "()I"⟩
abbrev cX7_restore : ByteArray := prog_9_method_38_code
def yX7_restore : MethodName := ⟨RX7, "restore", "()I"⟩
abbrev cX7_keepTurn : ByteArray := prog_9_method_39_code
def yX7_keepTurn : MethodName := ⟨RX7, "keepTurn", "()V"⟩
abbrev cX7_back : ByteArray := prog_9_method_40_code
def yX7_back : MethodName := ⟨RX7, "back", "()I"⟩
abbrev cX7_personOf : ByteArray := prog_9_method_41_code
def yX7_personOf : MethodName := ⟨RX7, "personOf", "(II)I"⟩
abbrev cX7_person : ByteArray := prog_9_method_42_code
def yX7_person : MethodName := ⟨RX7, "person", "(III)I"⟩
abbrev cX7_sets : ByteArray := prog_9_method_43_code
def yX7_sets : MethodName := ⟨RX7, "sets", "(III)I"⟩
abbrev cX7_trusts : ByteArray := prog_9_method_44_code
def yX7_trusts : MethodName := ⟨RX7, "trusts", "(II)I"⟩
abbrev cX7_lights : ByteArray := prog_9_method_45_code
def yX7_lights : MethodName := ⟨RX7, "lights", "(I)I"⟩
abbrev cX7_gives : ByteArray := prog_9_method_46_code
def yX7_gives : MethodName := ⟨RX7, "gives", "(III)I"⟩
abbrev cX7_hours : ByteArray := prog_9_method_47_code
def yX7_hours : MethodName := ⟨RX7, "hours", "(I)I"⟩
abbrev cX7_nights : ByteArray := prog_9_method_48_code
def yX7_nights : MethodName := ⟨RX7, "nights", "(I)I"⟩
abbrev cX7_behind : ByteArray := prog_9_method_49_code
def yX7_behind : MethodName := ⟨RX7, "behind", "(III)I"⟩
abbrev cX7_all : ByteArray := prog_9_method_50_code
def yX7_all : MethodName := ⟨RX7, "all", "(II)I"⟩
abbrev cX7_lasts : ByteArray := prog_9_method_51_code
def yX7_lasts : MethodName := ⟨RX7, "lasts", "(I)I"⟩
abbrev cX7_longestOne : ByteArray := prog_9_method_52_code
def yX7_longestOne : MethodName := ⟨RX7, "longestOne", "()I"⟩
abbrev cX7_darkIn : ByteArray := prog_9_method_53_code
def yX7_darkIn : MethodName := ⟨RX7, "darkIn", "()I"⟩
abbrev cX7_longest : ByteArray := prog_9_method_54_code
def yX7_longest : MethodName := ⟨RX7, "longest", "(I)I"⟩
abbrev cX7_give : ByteArray := prog_9_method_55_code
def yX7_give : MethodName := ⟨RX7, "give", "(III)I"⟩
abbrev cX7_lastsBy : ByteArray := prog_9_method_56_code
def yX7_lastsBy : MethodName := ⟨RX7, "lastsBy", "(IIIZ)I"⟩
abbrev cX7_bestFriend : ByteArray := prog_9_method_57_code
def yX7_bestFriend : MethodName := ⟨RX7, "bestFriend", "(II)I"⟩
abbrev cX7_both : ByteArray := prog_9_method_58_code
def yX7_both : MethodName := ⟨RX7, "both", "(III)I"⟩
abbrev cX7_borrow : ByteArray := prog_9_method_59_code
def yX7_borrow : MethodName := ⟨RX7, "borrow", "(I)I"⟩
abbrev cX7_night : ByteArray := prog_9_method_60_code
def yX7_night : MethodName := ⟨RX7, "night", "(III)I"⟩
abbrev cX7_nightOfAll : ByteArray := prog_9_method_61_code
def yX7_nightOfAll : MethodName := ⟨RX7, "nightOfAll", "(II)I"⟩
abbrev cX7_readsWith : ByteArray := prog_9_method_62_code
def yX7_readsWith : MethodName := ⟨RX7, "readsWith", "(III)I"⟩
abbrev cX7_trust : ByteArray := prog_9_method_63_code
def yX7_trust : MethodName := ⟨RX7, "trust", "(II)I"⟩
abbrev cX7_safe : ByteArray := prog_9_method_64_code
def yX7_safe : MethodName := ⟨RX7, "safe", "(II)I"⟩
abbrev cX7_relay : ByteArray := prog_9_method_65_code
def yX7_relay : MethodName := ⟨RX7, "relay", "(I)I"⟩
abbrev cX7_tax : ByteArray := prog_9_method_66_code
def yX7_tax : MethodName := ⟨RX7, "tax", "(II)I"⟩
abbrev cX7_hide : ByteArray := prog_9_method_67_code
def yX7_hide : MethodName := ⟨RX7, "hide", "(I)I"⟩
abbrev cX7_isRow : ByteArray := prog_9_method_68_code
def yX7_isRow : MethodName := ⟨RX7, "isRow", "(I)Z"⟩
abbrev cX7_whatHeHolds : ByteArray := prog_9_method_69_code
def yX7_whatHeHolds : MethodName := ⟨RX7, "whatHeHolds", "(II)I"⟩
abbrev cX7_whoGave : ByteArray := prog_9_method_70_code
def yX7_whoGave : MethodName := ⟨RX7, "whoGave", "(I)I"⟩
abbrev cX7_lastsIn : ByteArray := prog_9_method_71_code
def yX7_lastsIn : MethodName := ⟨RX7, "lastsIn", "(IIIII)I"⟩
abbrev cX7_halve : ByteArray := prog_9_method_72_code
def yX7_halve : MethodName := ⟨RX7, "halve", "(II)I"⟩
abbrev cX7_divisor : ByteArray := prog_9_method_73_code
def yX7_divisor : MethodName := ⟨RX7, "divisor", "(JJ)J"⟩
abbrev cX7_partOf : ByteArray := prog_9_method_74_code
def yX7_partOf : MethodName := ⟨RX7, "partOf", "(JJI)J"⟩
abbrev cX7_draft : ByteArray := prog_9_method_75_code
def yX7_draft : MethodName := ⟨RX7, "draft", "(IIII)J"⟩
abbrev cX7_shares : ByteArray := prog_9_method_76_code
def yX7_shares : MethodName := ⟨RX7, "shares", "(I)I"⟩
abbrev cX7_richest : ByteArray := prog_9_method_77_code
def yX7_richest : MethodName := ⟨RX7, "richest", "(I)I"⟩
abbrev cX7_allWealth : ByteArray := prog_9_method_78_code
def yX7_allWealth : MethodName := ⟨RX7, "allWealth", "()I"⟩
abbrev cX7_mean : ByteArray := prog_9_method_79_code
def yX7_mean : MethodName := ⟨RX7, "mean", "(I)J"⟩
abbrev cX7_apart : ByteArray := prog_9_method_80_code
def yX7_apart : MethodName := ⟨RX7, "apart", "()I"⟩
abbrev cX7_ring : ByteArray := prog_9_method_81_code
def yX7_ring : MethodName := ⟨RX7, "ring", "(I)I"⟩
abbrev cX7_above : ByteArray := prog_9_method_82_code
def yX7_above : MethodName := ⟨RX7, "above", "(I)I"⟩
abbrev cX7_trusted : ByteArray := prog_9_method_83_code
def yX7_trusted : MethodName := ⟨RX7, "trusted", "(I)I"⟩
abbrev cX7_unlit : ByteArray := prog_9_method_84_code
def yX7_unlit : MethodName := ⟨RX7, "unlit", "()I"⟩
abbrev cX7_gap : ByteArray := prog_9_method_85_code
def yX7_gap : MethodName := ⟨RX7, "gap", "(I)I"⟩
abbrev cX7_same : ByteArray := prog_9_method_86_code
def yX7_same : MethodName := ⟨RX7, "same", "()I"⟩
abbrev cX7_row : ByteArray := prog_9_method_87_code
def yX7_row : MethodName := ⟨RX7, "row", "(I)I"⟩
abbrev cX7_judge : ByteArray := prog_9_method_88_code
def yX7_judge : MethodName := ⟨RX7, "judge", "()I"⟩
abbrev cX7_clear : ByteArray := prog_9_method_89_code
def yX7_clear : MethodName := ⟨RX7, "clear", "()I"⟩
abbrev cX7_drawBelow : ByteArray := prog_9_method_90_code
def yX7_drawBelow : MethodName := ⟨RX7, "drawBelow", "(I)I"⟩
abbrev cX7_lots : ByteArray := prog_9_method_91_code
def yX7_lots : MethodName := ⟨RX7, "lots", "(III)I"⟩
abbrev cX7_count : ByteArray := prog_9_method_92_code
def yX7_count : MethodName := ⟨RX7, "count", "(I)I"⟩
def RJ6 : String := "java/lang/Integer"
def TJ6 : u_T := fun k => match k with
  | _ => ("", "", "", false)
def tyJ6 : Nat → FieldType := fun k => match k with
  | _ => .int
abbrev wsJ60 : List Cond := u_ws RJ6 TJ6 0
theorem nmJ6 : ∀ a, a < 0 → ∀ b, b < 0 → a ≠ b → (TJ6 a).2.1 ≠ (TJ6 b).2.1 := by decide +kernel
theorem tyJ6_ok : ∀ k, k < 0 → parseFieldDescriptor (TJ6 k).2.2.1 = some (tyJ6 k) := by decide +kernel
abbrev cJ6_bitCount_0f7a4 : ByteArray := prog_10_method_49_code
def yJ6_bitCount_0f7a4 : MethodName := ⟨RJ6, "bitCount", "(I)I"⟩
def RJ9 : String := "java/lang/Math"
def TJ9 : u_T := fun k => match k with
  | _ => ("", "", "", false)
def tyJ9 : Nat → FieldType := fun k => match k with
  | _ => .int
abbrev wsJ90 : List Cond := u_ws RJ9 TJ9 0
theorem nmJ9 : ∀ a, a < 0 → ∀ b, b < 0 → a ≠ b → (TJ9 a).2.1 ≠ (TJ9 b).2.1 := by decide +kernel
theorem tyJ9_ok : ∀ k, k < 0 → parseFieldDescriptor (TJ9 k).2.2.1 = some (tyJ9 k) := by decide +kernel
abbrev cJ9_max_7cf53 : ByteArray := prog_11_method_65_code
def yJ9_max_7cf53 : MethodName := ⟨RJ9, "max", "(II)I"⟩
abbrev cJ9_min_7cf53 : ByteArray := prog_11_method_69_code
def yJ9_min_7cf53 : MethodName := ⟨RJ9, "min", "(II)I"⟩
def RL : String := "FasterForTheRichLaw"
abbrev cL_law : ByteArray := code
def yL_law : MethodName := ⟨RL, "law", "([I)Z"⟩
end
section
/-! THE MACHINE IN SMALL: methods as lists of instructions over a store of whole numbers. A value: (1, an int), (2, a long), (3, a reference: 0 null, 1 the script, others the cell made at that place), (0, _) unset. -/
abbrev Vl : Type := Nat × Int
abbrev Ent : Type := Instr × Nat × Nat × Int
abbrev Sto : Type := Nat × (Nat → Nat → Int)
abbrev Act : Type := Nat × Nat × Nat × Nat × Bool × Vl × List Vl × List Vl × List Vl
def zE : Ent := (.aconst_null, 0, 0, 0)
def E0 : List Ent := [(.iload_n 0, 1, 0, 0), (.iload_n 0, 1, 0, 0), (.iconst 1, 1, 0, 0), (.iushr, 1, 0, 0), (.ldc_w 265, 3, 0, 1431655765), zE, zE, (.iand, 1, 0, 0), (.isub, 1, 0, 0), (.istore_n 0, 1, 0, 0), (.iload_n 0, 1, 0, 0), (.ldc_w 266, 3, 0, 858993459), zE, zE, (.iand, 1, 0, 0), (.iload_n 0, 1, 0, 0), (.iconst 2, 1, 0, 0), (.iushr, 1, 0, 0), (.ldc_w 266, 3, 0, 858993459), zE, zE, (.iand, 1, 0, 0), (.iadd, 1, 0, 0), (.istore_n 0, 1, 0, 0), (.iload_n 0, 1, 0, 0), (.iload_n 0, 1, 0, 0), (.iconst 4, 1, 0, 0), (.iushr, 1, 0, 0), (.iadd, 1, 0, 0), (.ldc_w 267, 3, 0, 252645135), zE, zE, (.iand, 1, 0, 0), (.istore_n 0, 1, 0, 0), (.iload_n 0, 1, 0, 0), (.iload_n 0, 1, 0, 0), (.bipush 8, 2, 0, 0), zE, (.iushr, 1, 0, 0), (.iadd, 1, 0, 0), (.istore_n 0, 1, 0, 0), (.iload_n 0, 1, 0, 0), (.iload_n 0, 1, 0, 0), (.bipush 16, 2, 0, 0), zE, (.iushr, 1, 0, 0), (.iadd, 1, 0, 0), (.istore_n 0, 1, 0, 0), (.iload_n 0, 1, 0, 0), (.bipush 63, 2, 0, 0), zE, (.iand, 1, 0, 0), (.ireturn, 1, 0, 0)]
def E1 : List Ent := [(.iload_n 0, 1, 0, 0), (.tableswitch 50 1 5 #[35, 50, 42, 35, 48], 35, 0, 0), zE, zE, zE, zE, zE, zE, zE, zE, zE, zE, zE, zE, zE, zE, zE, zE, zE, zE, zE, zE, zE, zE, zE, zE, zE, zE, zE, zE, zE, zE, zE, zE, zE, zE, (.iconst 2, 1, 0, 0), (.iload_n 1, 1, 0, 0), (.bipush 10, 2, 0, 0), zE, (.idiv, 1, 0, 0), (.iadd, 1, 0, 0), (.ireturn, 1, 0, 0), (.iconst 1, 1, 0, 0), (.iload_n 1, 1, 0, 0), (.iconst 5, 1, 0, 0), (.idiv, 1, 0, 0), (.iadd, 1, 0, 0), (.ireturn, 1, 0, 0), (.iconst 1, 1, 0, 0), (.ireturn, 1, 0, 0), (.iconst 1, 1, 0, 0), (.iload_n 1, 1, 0, 0), (.bipush 10, 2, 0, 0), zE, (.idiv, 1, 0, 0), (.iadd, 1, 0, 0), (.ireturn, 1, 0, 0)]
def E2 : List Ent := [(.iload_n 0, 1, 0, 0), (.tableswitch 39 1 5 #[35, 39, 37, 35, 35], 35, 0, 0), zE, zE, zE, zE, zE, zE, zE, zE, zE, zE, zE, zE, zE, zE, zE, zE, zE, zE, zE, zE, zE, zE, zE, zE, zE, zE, zE, zE, zE, zE, zE, zE, zE, zE, (.iconst 1, 1, 0, 0), (.ireturn, 1, 0, 0), (.iconst 0, 1, 0, 0), (.ireturn, 1, 0, 0), (.iload_n 1, 1, 0, 0), (.iconst 4, 1, 0, 0), (.if_icmp .lt 7, 3, 0, 0), zE, zE, (.iconst 1, 1, 0, 0), (.goto 4, 3, 0, 0), zE, zE, (.iconst 0, 1, 0, 0), (.ireturn, 1, 0, 0)]
def E3 : List Ent := [(.iload_n 2, 1, 0, 0), (.iload_n 3, 1, 0, 0), (.iadd, 1, 0, 0), (.istore 4, 2, 0, 0), zE, (.iload_n 0, 1, 0, 0), (.tableswitch 77 1 5 #[34, 40, 59, 65, 75], 34, 0, 0), zE, zE, zE, zE, zE, zE, zE, zE, zE, zE, zE, zE, zE, zE, zE, zE, zE, zE, zE, zE, zE, zE, zE, zE, zE, zE, zE, zE, zE, zE, zE, zE, zE, (.iload 4, 2, 0, 0), zE, (.bipush 10, 2, 0, 0), zE, (.iadd, 1, 0, 0), (.ireturn, 1, 0, 0), (.iload 4, 2, 0, 0), zE, (.iconst 2, 1, 0, 0), (.idiv, 1, 0, 0), (.iload_n 1, 1, 0, 0), (.if_icmp .le 12, 3, 0, 0), zE, zE, (.iload 4, 2, 0, 0), zE, (.iconst 2, 1, 0, 0), (.idiv, 1, 0, 0), (.iload_n 1, 1, 0, 0), (.isub, 1, 0, 0), (.goto 4, 3, 0, 0), zE, zE, (.iconst 0, 1, 0, 0), (.ireturn, 1, 0, 0), (.iload_n 2, 1, 0, 0), (.iconst 2, 1, 0, 0), (.iload_n 3, 1, 0, 0), (.imul, 1, 0, 0), (.iadd, 1, 0, 0), (.ireturn, 1, 0, 0), (.iload 4, 2, 0, 0), zE, (.bipush 10, 2, 0, 0), zE, (.iadd, 1, 0, 0), (.iload_n 2, 1, 0, 0), (.iconst 2, 1, 0, 0), (.idiv, 1, 0, 0), (.isub, 1, 0, 0), (.ireturn, 1, 0, 0), (.iload_n 1, 1, 0, 0), (.ireturn, 1, 0, 0), (.iload 4, 2, 0, 0), zE, (.ireturn, 1, 0, 0)]
def E4 : List Ent := [(.aload_n 0, 1, 0, 0), (.iconst 0, 1, 0, 0), (.putfield 20, 3, 2, 2), zE, zE, (.return_, 1, 0, 0)]
def E5 : List Ent := [(.aload_n 0, 1, 0, 0), (.invokespecial 3, 3, 0, 1), zE, zE, (.aload_n 0, 1, 0, 0), (.bipush 6, 2, 0, 0), zE, (.newarray .int, 2, 0, 0), zE, (.putfield 9, 3, 1, 0), zE, zE, (.aload_n 0, 1, 0, 0), (.bipush 6, 2, 0, 0), zE, (.newarray .int, 2, 0, 0), zE, (.putfield 15, 3, 1, 1), zE, zE, (.aload_n 0, 1, 0, 0), (.bipush 6, 2, 0, 0), zE, (.newarray .int, 2, 0, 0), zE, (.putfield 18, 3, 1, 2), zE, zE, (.aload_n 0, 1, 0, 0), (.bipush 6, 2, 0, 0), zE, (.newarray .int, 2, 0, 0), zE, (.putfield 21, 3, 1, 3), zE, zE, (.aload_n 0, 1, 0, 0), (.bipush 6, 2, 0, 0), zE, (.newarray .int, 2, 0, 0), zE, (.putfield 24, 3, 1, 4), zE, zE, (.aload_n 0, 1, 0, 0), (.bipush 6, 2, 0, 0), zE, (.newarray .boolean, 2, 0, 0), zE, (.putfield 27, 3, 1, 5), zE, zE, (.aload_n 0, 1, 0, 0), (.bipush 6, 2, 0, 0), zE, (.newarray .int, 2, 0, 0), zE, (.putfield 31, 3, 1, 6), zE, zE, (.aload_n 0, 1, 0, 0), (.bipush 6, 2, 0, 0), zE, (.newarray .int, 2, 0, 0), zE, (.putfield 34, 3, 1, 7), zE, zE, (.aload_n 0, 1, 0, 0), (.bipush 6, 2, 0, 0), zE, (.newarray .int, 2, 0, 0), zE, (.putfield 37, 3, 1, 8), zE, zE, (.aload_n 0, 1, 0, 0), (.iconst 0, 1, 0, 0), (.putfield 40, 3, 1, 9), zE, zE, (.aload_n 0, 1, 0, 0), (.iconst 0, 1, 0, 0), (.putfield 44, 3, 1, 10), zE, zE, (.return_, 1, 0, 0)]
def E6 : List Ent := [(.aload_n 0, 1, 0, 0), (.invokespecial 1, 3, 0, 1), zE, zE, (.aload_n 0, 1, 0, 0), (.bipush 8, 2, 0, 0), zE, (.anewarray 9, 3, 0, 0), zE, zE, (.putfield 11, 3, 2, 0), zE, zE, (.iconst 0, 1, 0, 0), (.istore_n 1, 1, 0, 0), (.iload_n 1, 1, 0, 0), (.bipush 8, 2, 0, 0), zE, (.if_icmp .ge 22, 3, 0, 0), zE, zE, (.aload_n 0, 1, 0, 0), (.getfield 11, 3, 2, 0), zE, zE, (.iload_n 1, 1, 0, 0), (.new 9, 3, 1, 0), zE, zE, (.dup, 1, 0, 0), (.invokespecial 15, 3, 5, 0), zE, zE, (.aastore, 1, 0, 0), (.iinc 1 1, 3, 0, 0), zE, zE, (.goto (-22), 3, 0, 0), zE, zE, (.aload_n 0, 1, 0, 0), (.iconst 0, 1, 0, 0), (.putfield 16, 3, 2, 1), zE, zE, (.aload_n 0, 1, 0, 0), (.iconst 0, 1, 0, 0), (.putfield 20, 3, 2, 2), zE, zE, (.return_, 1, 0, 0)]
def E7 : List Ent := [(.iconst 0, 1, 0, 0), (.istore_n 2, 1, 0, 0), (.iload_n 2, 1, 0, 0), (.aload_n 1, 1, 0, 0), (.getfield 40, 3, 1, 9), zE, zE, (.if_icmp .ge 105, 3, 0, 0), zE, zE, (.aload_n 0, 1, 0, 0), (.getfield 9, 3, 1, 0), zE, zE, (.iload_n 2, 1, 0, 0), (.aload_n 1, 1, 0, 0), (.getfield 9, 3, 1, 0), zE, zE, (.iload_n 2, 1, 0, 0), (.iaload, 1, 0, 0), (.iastore, 1, 0, 0), (.aload_n 0, 1, 0, 0), (.getfield 15, 3, 1, 1), zE, zE, (.iload_n 2, 1, 0, 0), (.aload_n 1, 1, 0, 0), (.getfield 15, 3, 1, 1), zE, zE, (.iload_n 2, 1, 0, 0), (.iaload, 1, 0, 0), (.iastore, 1, 0, 0), (.aload_n 0, 1, 0, 0), (.getfield 18, 3, 1, 2), zE, zE, (.iload_n 2, 1, 0, 0), (.aload_n 1, 1, 0, 0), (.getfield 18, 3, 1, 2), zE, zE, (.iload_n 2, 1, 0, 0), (.iaload, 1, 0, 0), (.iastore, 1, 0, 0), (.aload_n 0, 1, 0, 0), (.getfield 21, 3, 1, 3), zE, zE, (.iload_n 2, 1, 0, 0), (.aload_n 1, 1, 0, 0), (.getfield 21, 3, 1, 3), zE, zE, (.iload_n 2, 1, 0, 0), (.iaload, 1, 0, 0), (.iastore, 1, 0, 0), (.aload_n 0, 1, 0, 0), (.getfield 24, 3, 1, 4), zE, zE, (.iload_n 2, 1, 0, 0), (.aload_n 1, 1, 0, 0), (.getfield 24, 3, 1, 4), zE, zE, (.iload_n 2, 1, 0, 0), (.iaload, 1, 0, 0), (.iastore, 1, 0, 0), (.aload_n 0, 1, 0, 0), (.getfield 27, 3, 1, 5), zE, zE, (.iload_n 2, 1, 0, 0), (.aload_n 1, 1, 0, 0), (.getfield 27, 3, 1, 5), zE, zE, (.iload_n 2, 1, 0, 0), (.baload, 1, 0, 0), (.bastore, 1, 0, 0), (.aload_n 0, 1, 0, 0), (.getfield 31, 3, 1, 6), zE, zE, (.iload_n 2, 1, 0, 0), (.aload_n 1, 1, 0, 0), (.getfield 31, 3, 1, 6), zE, zE, (.iload_n 2, 1, 0, 0), (.iaload, 1, 0, 0), (.iastore, 1, 0, 0), (.aload_n 0, 1, 0, 0), (.getfield 34, 3, 1, 7), zE, zE, (.iload_n 2, 1, 0, 0), (.aload_n 1, 1, 0, 0), (.getfield 34, 3, 1, 7), zE, zE, (.iload_n 2, 1, 0, 0), (.iaload, 1, 0, 0), (.iastore, 1, 0, 0), (.iinc 2 1, 3, 0, 0), zE, zE, (.goto (-107), 3, 0, 0), zE, zE, (.aload_n 0, 1, 0, 0), (.aload_n 1, 1, 0, 0), (.getfield 40, 3, 1, 9), zE, zE, (.putfield 40, 3, 1, 9), zE, zE, (.aload_n 0, 1, 0, 0), (.aload_n 1, 1, 0, 0), (.getfield 44, 3, 1, 10), zE, zE, (.putfield 44, 3, 1, 10), zE, zE, (.return_, 1, 0, 0)]
def E8 : List Ent := [(.aload_n 0, 1, 0, 0), (.getfield 11, 3, 2, 0), zE, zE, (.aload_n 0, 1, 0, 0), (.getfield 16, 3, 2, 1), zE, zE, (.aload_n 0, 1, 0, 0), (.getfield 20, 3, 2, 2), zE, zE, (.iadd, 1, 0, 0), (.bipush 8, 2, 0, 0), zE, (.irem, 1, 0, 0), (.aaload, 1, 0, 0), (.aload_n 1, 1, 0, 0), (.invokevirtual 23, 3, 7, 0), zE, zE, (.aload_n 0, 1, 0, 0), (.getfield 20, 3, 2, 2), zE, zE, (.bipush 8, 2, 0, 0), zE, (.if_icmp .ge 16, 3, 0, 0), zE, zE, (.aload_n 0, 1, 0, 0), (.dup, 1, 0, 0), (.getfield 20, 3, 2, 2), zE, zE, (.iconst 1, 1, 0, 0), (.iadd, 1, 0, 0), (.putfield 20, 3, 2, 2), zE, zE, (.goto 16, 3, 0, 0), zE, zE, (.aload_n 0, 1, 0, 0), (.aload_n 0, 1, 0, 0), (.getfield 16, 3, 2, 1), zE, zE, (.iconst 1, 1, 0, 0), (.iadd, 1, 0, 0), (.bipush 8, 2, 0, 0), zE, (.irem, 1, 0, 0), (.putfield 16, 3, 2, 1), zE, zE, (.return_, 1, 0, 0)]
def E9 : List Ent := [(.aload_n 0, 1, 0, 0), (.getfield 20, 3, 2, 2), zE, zE, (.ireturn, 1, 0, 0)]
def E10 : List Ent := [(.aload_n 0, 1, 0, 0), (.getfield 20, 3, 2, 2), zE, zE, (.ifCond .le 34, 3, 0, 0), zE, zE, (.aload_n 0, 1, 0, 0), (.dup, 1, 0, 0), (.getfield 20, 3, 2, 2), zE, zE, (.iconst 1, 1, 0, 0), (.isub, 1, 0, 0), (.putfield 20, 3, 2, 2), zE, zE, (.aload_n 1, 1, 0, 0), (.aload_n 0, 1, 0, 0), (.getfield 11, 3, 2, 0), zE, zE, (.aload_n 0, 1, 0, 0), (.getfield 16, 3, 2, 1), zE, zE, (.aload_n 0, 1, 0, 0), (.getfield 20, 3, 2, 2), zE, zE, (.iadd, 1, 0, 0), (.bipush 8, 2, 0, 0), zE, (.irem, 1, 0, 0), (.aaload, 1, 0, 0), (.invokevirtual 23, 3, 7, 0), zE, zE, (.return_, 1, 0, 0)]
def E11 : List Ent := [(.iload_n 1, 1, 0, 0), (.ifCond .lt 23, 3, 0, 0), zE, zE, (.iload_n 1, 1, 0, 0), (.aload_n 0, 1, 0, 0), (.getfield 11, 3, 3, 1), zE, zE, (.if_icmp .ge 15, 3, 0, 0), zE, zE, (.aload_n 0, 1, 0, 0), (.getfield 15, 3, 3, 0), zE, zE, (.iload_n 1, 1, 0, 0), (.iaload, 1, 0, 0), (.bipush 48, 2, 0, 0), zE, (.isub, 1, 0, 0), (.goto 4, 3, 0, 0), zE, zE, (.iconst 0, 1, 0, 0), (.ireturn, 1, 0, 0)]
def E12 : List Ent := [(.bipush 10, 2, 0, 0), zE, (.aload_n 0, 1, 0, 0), (.iload_n 1, 1, 0, 0), (.invokevirtual 31, 3, 11, 0), zE, zE, (.imul, 1, 0, 0), (.aload_n 0, 1, 0, 0), (.iload_n 1, 1, 0, 0), (.iconst 1, 1, 0, 0), (.iadd, 1, 0, 0), (.invokevirtual 31, 3, 11, 0), zE, zE, (.iadd, 1, 0, 0), (.ireturn, 1, 0, 0)]
def E13 : List Ent := [(.aload_n 0, 1, 0, 0), (.getfield 40, 3, 1, 9), zE, zE, (.bipush 6, 2, 0, 0), zE, (.if_icmp .lt 7, 3, 0, 0), zE, zE, (.iconst 1, 1, 0, 0), (.goto 4, 3, 0, 0), zE, zE, (.iconst 0, 1, 0, 0), (.ireturn, 1, 0, 0)]
def E14 : List Ent := [(.aload_n 0, 1, 0, 0), (.invokevirtual 47, 3, 13, 0), zE, zE, (.ifCond .eq 4, 3, 0, 0), zE, zE, (.return_, 1, 0, 0), (.aload_n 0, 1, 0, 0), (.getfield 9, 3, 1, 0), zE, zE, (.aload_n 0, 1, 0, 0), (.getfield 40, 3, 1, 9), zE, zE, (.iload_n 1, 1, 0, 0), (.iastore, 1, 0, 0), (.aload_n 0, 1, 0, 0), (.getfield 15, 3, 1, 1), zE, zE, (.aload_n 0, 1, 0, 0), (.getfield 40, 3, 1, 9), zE, zE, (.iload_n 2, 1, 0, 0), (.iastore, 1, 0, 0), (.aload_n 0, 1, 0, 0), (.getfield 18, 3, 1, 2), zE, zE, (.aload_n 0, 1, 0, 0), (.getfield 40, 3, 1, 9), zE, zE, (.iload_n 3, 1, 0, 0), (.iastore, 1, 0, 0), (.aload_n 0, 1, 0, 0), (.getfield 21, 3, 1, 3), zE, zE, (.aload_n 0, 1, 0, 0), (.getfield 40, 3, 1, 9), zE, zE, (.iconst 0, 1, 0, 0), (.iastore, 1, 0, 0), (.aload_n 0, 1, 0, 0), (.getfield 24, 3, 1, 4), zE, zE, (.aload_n 0, 1, 0, 0), (.getfield 40, 3, 1, 9), zE, zE, (.bipush 50, 2, 0, 0), zE, (.iastore, 1, 0, 0), (.aload_n 0, 1, 0, 0), (.getfield 27, 3, 1, 5), zE, zE, (.aload_n 0, 1, 0, 0), (.getfield 40, 3, 1, 9), zE, zE, (.iconst 0, 1, 0, 0), (.bastore, 1, 0, 0), (.aload_n 0, 1, 0, 0), (.getfield 31, 3, 1, 6), zE, zE, (.aload_n 0, 1, 0, 0), (.getfield 40, 3, 1, 9), zE, zE, (.iconst 0, 1, 0, 0), (.iastore, 1, 0, 0), (.aload_n 0, 1, 0, 0), (.getfield 34, 3, 1, 7), zE, zE, (.aload_n 0, 1, 0, 0), (.getfield 40, 3, 1, 9), zE, zE, (.iconst (-1), 1, 0, 0), (.iastore, 1, 0, 0), (.aload_n 0, 1, 0, 0), (.dup, 1, 0, 0), (.getfield 40, 3, 1, 9), zE, zE, (.iconst 1, 1, 0, 0), (.iadd, 1, 0, 0), (.putfield 40, 3, 1, 9), zE, zE, (.return_, 1, 0, 0)]
def E15 : List Ent := [(.iload_n 1, 1, 0, 0), (.iconst 5, 1, 0, 0), (.if_icmp .gt 10, 3, 0, 0), zE, zE, (.aload_n 0, 1, 0, 0), (.invokevirtual 63, 3, 13, 0), zE, zE, (.ifCond .eq 5, 3, 0, 0), zE, zE, (.iconst 0, 1, 0, 0), (.ireturn, 1, 0, 0), (.aload_n 0, 1, 0, 0), (.iload_n 1, 1, 0, 0), (.iload_n 2, 1, 0, 0), (.iload_n 3, 1, 0, 0), (.invokevirtual 67, 3, 14, 0), zE, zE, (.iconst 1, 1, 0, 0), (.ireturn, 1, 0, 0)]
def E16 : List Ent := [(.iload_n 1, 1, 0, 0), (.ifCond .lt 15, 3, 0, 0), zE, zE, (.iload_n 1, 1, 0, 0), (.aload_n 0, 1, 0, 0), (.getfield 40, 3, 1, 9), zE, zE, (.if_icmp .ge 7, 3, 0, 0), zE, zE, (.iconst 1, 1, 0, 0), (.goto 4, 3, 0, 0), zE, zE, (.iconst 0, 1, 0, 0), (.ireturn, 1, 0, 0)]
def E17 : List Ent := [(.aload_n 0, 1, 0, 0), (.iload_n 1, 1, 0, 0), (.invokevirtual 71, 3, 16, 0), zE, zE, (.ifCond .ne 5, 3, 0, 0), zE, zE, (.iconst 0, 1, 0, 0), (.ireturn, 1, 0, 0), (.aload_n 0, 1, 0, 0), (.getfield 74, 3, 1, 3), zE, zE, (.iload_n 1, 1, 0, 0), (.iload_n 2, 1, 0, 0), (.iastore, 1, 0, 0), (.iconst 1, 1, 0, 0), (.ireturn, 1, 0, 0)]
def E18 : List Ent := [(.aload_n 0, 1, 0, 0), (.getfield 24, 3, 1, 4), zE, zE, (.iload_n 1, 1, 0, 0), (.iload_n 2, 1, 0, 0), (.iastore, 1, 0, 0), (.iload_n 2, 1, 0, 0), (.ifCond .ne 10, 3, 0, 0), zE, zE, (.aload_n 0, 1, 0, 0), (.getfield 27, 3, 1, 5), zE, zE, (.iload_n 1, 1, 0, 0), (.iconst 0, 1, 0, 0), (.bastore, 1, 0, 0), (.return_, 1, 0, 0)]
def E19 : List Ent := [(.aload_n 0, 1, 0, 0), (.iload_n 1, 1, 0, 0), (.invokevirtual 71, 3, 16, 0), zE, zE, (.ifCond .ne 5, 3, 0, 0), zE, zE, (.iconst 0, 1, 0, 0), (.ireturn, 1, 0, 0), (.aload_n 0, 1, 0, 0), (.iload_n 1, 1, 0, 0), (.iload_n 2, 1, 0, 0), (.invokevirtual 77, 3, 18, 0), zE, zE, (.iconst 1, 1, 0, 0), (.ireturn, 1, 0, 0)]
def E20 : List Ent := [(.aload_n 0, 1, 0, 0), (.getfield 34, 3, 1, 7), zE, zE, (.iload_n 1, 1, 0, 0), (.aload_n 0, 1, 0, 0), (.getfield 34, 3, 1, 7), zE, zE, (.iload_n 1, 1, 0, 0), (.iaload, 1, 0, 0), (.iload_n 2, 1, 0, 0), (.if_icmp .ne 7, 3, 0, 0), zE, zE, (.iconst (-1), 1, 0, 0), (.goto 4, 3, 0, 0), zE, zE, (.iload_n 2, 1, 0, 0), (.iastore, 1, 0, 0), (.return_, 1, 0, 0)]
def E21 : List Ent := [(.aload_n 0, 1, 0, 0), (.iload_n 1, 1, 0, 0), (.invokevirtual 71, 3, 16, 0), zE, zE, (.ifCond .eq 16, 3, 0, 0), zE, zE, (.aload_n 0, 1, 0, 0), (.iload_n 2, 1, 0, 0), (.invokevirtual 71, 3, 16, 0), zE, zE, (.ifCond .eq 8, 3, 0, 0), zE, zE, (.iload_n 1, 1, 0, 0), (.iload_n 2, 1, 0, 0), (.if_icmp .ne 5, 3, 0, 0), zE, zE, (.iconst 0, 1, 0, 0), (.ireturn, 1, 0, 0), (.aload_n 0, 1, 0, 0), (.iload_n 1, 1, 0, 0), (.iload_n 2, 1, 0, 0), (.invokevirtual 81, 3, 20, 0), zE, zE, (.iconst 1, 1, 0, 0), (.ireturn, 1, 0, 0)]
def E22 : List Ent := [(.aload_n 0, 1, 0, 0), (.iload_n 1, 1, 0, 0), (.invokevirtual 71, 3, 16, 0), zE, zE, (.ifCond .eq 12, 3, 0, 0), zE, zE, (.aload_n 0, 1, 0, 0), (.getfield 84, 3, 1, 4), zE, zE, (.iload_n 1, 1, 0, 0), (.iaload, 1, 0, 0), (.ifCond .ne 5, 3, 0, 0), zE, zE, (.iconst 0, 1, 0, 0), (.ireturn, 1, 0, 0), (.aload_n 0, 1, 0, 0), (.getfield 87, 3, 1, 5), zE, zE, (.iload_n 1, 1, 0, 0), (.aload_n 0, 1, 0, 0), (.getfield 87, 3, 1, 5), zE, zE, (.iload_n 1, 1, 0, 0), (.baload, 1, 0, 0), (.ifCond .ne 7, 3, 0, 0), zE, zE, (.iconst 1, 1, 0, 0), (.goto 4, 3, 0, 0), zE, zE, (.iconst 0, 1, 0, 0), (.bastore, 1, 0, 0), (.iconst 1, 1, 0, 0), (.ireturn, 1, 0, 0)]
def E23 : List Ent := [(.iload_n 1, 1, 0, 0), (.sipush 999, 3, 0, 0), zE, zE, (.aload_n 0, 1, 0, 0), (.getfield 44, 3, 1, 10), zE, zE, (.isub, 1, 0, 0), (.if_icmp .gt 7, 3, 0, 0), zE, zE, (.iconst 1, 1, 0, 0), (.goto 4, 3, 0, 0), zE, zE, (.iconst 0, 1, 0, 0), (.ireturn, 1, 0, 0)]
def E24 : List Ent := [(.sipush 999, 3, 0, 0), zE, zE, (.aload_n 0, 1, 0, 0), (.getfield 18, 3, 1, 2), zE, zE, (.iload_n 1, 1, 0, 0), (.iaload, 1, 0, 0), (.iload_n 2, 1, 0, 0), (.iadd, 1, 0, 0), (.invokestatic 51, 3, 0, 1), zE, zE, (.ireturn, 1, 0, 0)]
def E25 : List Ent := [(.iconst 0, 1, 0, 0), (.istore_n 1, 1, 0, 0), (.iload_n 1, 1, 0, 0), (.aload_n 0, 1, 0, 0), (.getfield 40, 3, 1, 9), zE, zE, (.if_icmp .ge 80, 3, 0, 0), zE, zE, (.aload_n 0, 1, 0, 0), (.getfield 34, 3, 1, 7), zE, zE, (.iload_n 1, 1, 0, 0), (.iaload, 1, 0, 0), (.istore_n 2, 1, 0, 0), (.aload_n 0, 1, 0, 0), (.iload_n 2, 1, 0, 0), (.invokevirtual 95, 3, 16, 0), zE, zE, (.ifCond .eq 39, 3, 0, 0), zE, zE, (.aload_n 0, 1, 0, 0), (.getfield 37, 3, 1, 8), zE, zE, (.iload_n 1, 1, 0, 0), (.aload_n 0, 1, 0, 0), (.getfield 18, 3, 1, 2), zE, zE, (.iload_n 1, 1, 0, 0), (.iaload, 1, 0, 0), (.iastore, 1, 0, 0), (.aload_n 0, 1, 0, 0), (.getfield 18, 3, 1, 2), zE, zE, (.iload_n 1, 1, 0, 0), (.iconst 0, 1, 0, 0), (.iastore, 1, 0, 0), (.aload_n 0, 1, 0, 0), (.getfield 18, 3, 1, 2), zE, zE, (.iload_n 2, 1, 0, 0), (.aload_n 0, 1, 0, 0), (.iload_n 2, 1, 0, 0), (.aload_n 0, 1, 0, 0), (.getfield 37, 3, 1, 8), zE, zE, (.iload_n 1, 1, 0, 0), (.iaload, 1, 0, 0), (.invokevirtual 72, 3, 24, 0), zE, zE, (.iastore, 1, 0, 0), (.aload_n 0, 1, 0, 0), (.getfield 27, 3, 1, 5), zE, zE, (.iload_n 1, 1, 0, 0), (.aload_n 0, 1, 0, 0), (.getfield 24, 3, 1, 4), zE, zE, (.iload_n 1, 1, 0, 0), (.iaload, 1, 0, 0), (.ifCond .le 7, 3, 0, 0), zE, zE, (.iconst 1, 1, 0, 0), (.goto 4, 3, 0, 0), zE, zE, (.iconst 0, 1, 0, 0), (.bastore, 1, 0, 0), (.iinc 1 1, 3, 0, 0), zE, zE, (.goto (-82), 3, 0, 0), zE, zE, (.return_, 1, 0, 0)]
def E26 : List Ent := [(.aload_n 0, 1, 0, 0), (.getfield 9, 3, 1, 0), zE, zE, (.iload_n 1, 1, 0, 0), (.iaload, 1, 0, 0), (.aload_n 0, 1, 0, 0), (.getfield 9, 3, 1, 0), zE, zE, (.iload_n 1, 1, 0, 0), (.iaload, 1, 0, 0), (.aload_n 0, 1, 0, 0), (.getfield 15, 3, 1, 1), zE, zE, (.iload_n 1, 1, 0, 0), (.iaload, 1, 0, 0), (.iload_n 2, 1, 0, 0), (.aload_n 0, 1, 0, 0), (.getfield 21, 3, 1, 3), zE, zE, (.iload_n 1, 1, 0, 0), (.iaload, 1, 0, 0), (.invokestatic 57, 3, 3, 0), zE, zE, (.invokestatic 66, 3, 1, 0), zE, zE, (.ireturn, 1, 0, 0)]
def E27 : List Ent := [(.aload_n 0, 1, 0, 0), (.dup, 1, 0, 0), (.getfield 44, 3, 1, 10), zE, zE, (.iconst 1, 1, 0, 0), (.iadd, 1, 0, 0), (.putfield 44, 3, 1, 10), zE, zE, (.iconst 0, 1, 0, 0), (.istore_n 1, 1, 0, 0), (.iload_n 1, 1, 0, 0), (.aload_n 0, 1, 0, 0), (.getfield 40, 3, 1, 9), zE, zE, (.if_icmp .ge 65, 3, 0, 0), zE, zE, (.aload_n 0, 1, 0, 0), (.getfield 27, 3, 1, 5), zE, zE, (.iload_n 1, 1, 0, 0), (.baload, 1, 0, 0), (.ifCond .eq 50, 3, 0, 0), zE, zE, (.aload_n 0, 1, 0, 0), (.getfield 31, 3, 1, 6), zE, zE, (.iload_n 1, 1, 0, 0), (.sipush 999, 3, 0, 0), zE, zE, (.aload_n 0, 1, 0, 0), (.getfield 31, 3, 1, 6), zE, zE, (.iload_n 1, 1, 0, 0), (.iaload, 1, 0, 0), (.iconst 1, 1, 0, 0), (.iadd, 1, 0, 0), (.invokestatic 51, 3, 0, 1), zE, zE, (.iastore, 1, 0, 0), (.aload_n 0, 1, 0, 0), (.iload_n 1, 1, 0, 0), (.iconst 0, 1, 0, 0), (.aload_n 0, 1, 0, 0), (.getfield 24, 3, 1, 4), zE, zE, (.iload_n 1, 1, 0, 0), (.iaload, 1, 0, 0), (.aload_n 0, 1, 0, 0), (.iload_n 1, 1, 0, 0), (.aload_n 0, 1, 0, 0), (.getfield 18, 3, 1, 2), zE, zE, (.iload_n 1, 1, 0, 0), (.iaload, 1, 0, 0), (.invokevirtual 63, 3, 26, 0), zE, zE, (.isub, 1, 0, 0), (.invokestatic 79, 3, 0, 2), zE, zE, (.invokevirtual 82, 3, 18, 0), zE, zE, (.iinc 1 1, 3, 0, 0), zE, zE, (.goto (-67), 3, 0, 0), zE, zE, (.return_, 1, 0, 0)]
def E28 : List Ent := [(.aload_n 0, 1, 0, 0), (.getfield 9, 3, 1, 0), zE, zE, (.iload_n 1, 1, 0, 0), (.iaload, 1, 0, 0), (.aload_n 0, 1, 0, 0), (.getfield 15, 3, 1, 1), zE, zE, (.iload_n 1, 1, 0, 0), (.iaload, 1, 0, 0), (.invokestatic 75, 3, 2, 0), zE, zE, (.ireturn, 1, 0, 0)]
def E29 : List Ent := [(.aload_n 0, 1, 0, 0), (.getfield 40, 3, 1, 9), zE, zE, (.iconst 1, 1, 0, 0), (.isub, 1, 0, 0), (.istore_n 1, 1, 0, 0), (.iload_n 1, 1, 0, 0), (.ifCond .lt 93, 3, 0, 0), zE, zE, (.aload_n 0, 1, 0, 0), (.getfield 34, 3, 1, 7), zE, zE, (.iload_n 1, 1, 0, 0), (.iaload, 1, 0, 0), (.istore_n 2, 1, 0, 0), (.aload_n 0, 1, 0, 0), (.iload_n 2, 1, 0, 0), (.invokevirtual 95, 3, 16, 0), zE, zE, (.ifCond .eq 65, 3, 0, 0), zE, zE, (.aload_n 0, 1, 0, 0), (.iload_n 2, 1, 0, 0), (.invokevirtual 99, 3, 28, 0), zE, zE, (.ifCond .eq 12, 3, 0, 0), zE, zE, (.aload_n 0, 1, 0, 0), (.getfield 37, 3, 1, 8), zE, zE, (.iload_n 1, 1, 0, 0), (.iaload, 1, 0, 0), (.goto 11, 3, 0, 0), zE, zE, (.aload_n 0, 1, 0, 0), (.getfield 37, 3, 1, 8), zE, zE, (.iload_n 1, 1, 0, 0), (.iaload, 1, 0, 0), (.iconst 2, 1, 0, 0), (.idiv, 1, 0, 0), (.istore_n 3, 1, 0, 0), (.iload_n 3, 1, 0, 0), (.aload_n 0, 1, 0, 0), (.getfield 18, 3, 1, 2), zE, zE, (.iload_n 2, 1, 0, 0), (.iaload, 1, 0, 0), (.invokestatic 51, 3, 0, 1), zE, zE, (.istore 4, 2, 0, 0), zE, (.aload_n 0, 1, 0, 0), (.getfield 18, 3, 1, 2), zE, zE, (.iload_n 2, 1, 0, 0), (.dup2, 1, 0, 0), (.iaload, 1, 0, 0), (.iload 4, 2, 0, 0), zE, (.isub, 1, 0, 0), (.iastore, 1, 0, 0), (.aload_n 0, 1, 0, 0), (.getfield 18, 3, 1, 2), zE, zE, (.iload_n 1, 1, 0, 0), (.aload_n 0, 1, 0, 0), (.iload_n 1, 1, 0, 0), (.iload 4, 2, 0, 0), zE, (.invokevirtual 72, 3, 24, 0), zE, zE, (.iastore, 1, 0, 0), (.aload_n 0, 1, 0, 0), (.getfield 27, 3, 1, 5), zE, zE, (.iload_n 1, 1, 0, 0), (.iconst 0, 1, 0, 0), (.bastore, 1, 0, 0), (.iinc 1 (-1), 3, 0, 0), zE, zE, (.goto (-91), 3, 0, 0), zE, zE, (.return_, 1, 0, 0)]
def E30 : List Ent := [(.aload_n 0, 1, 0, 0), (.invokevirtual 89, 3, 25, 0), zE, zE, (.iconst 0, 1, 0, 0), (.istore_n 2, 1, 0, 0), (.iload_n 2, 1, 0, 0), (.iload_n 1, 1, 0, 0), (.if_icmp .ge 13, 3, 0, 0), zE, zE, (.aload_n 0, 1, 0, 0), (.invokevirtual 86, 3, 27, 0), zE, zE, (.iinc 2 1, 3, 0, 0), zE, zE, (.goto (-12), 3, 0, 0), zE, zE, (.aload_n 0, 1, 0, 0), (.invokevirtual 92, 3, 29, 0), zE, zE, (.return_, 1, 0, 0)]
def E31 : List Ent := [(.aload_n 0, 1, 0, 0), (.iload_n 2, 1, 0, 0), (.iconst 1, 1, 0, 0), (.iadd, 1, 0, 0), (.invokevirtual 31, 3, 11, 0), zE, zE, (.istore_n 3, 1, 0, 0), (.iload_n 2, 1, 0, 0), (.ifCond .lt 20, 3, 0, 0), zE, zE, (.iload_n 2, 1, 0, 0), (.aload_n 0, 1, 0, 0), (.getfield 11, 3, 3, 1), zE, zE, (.if_icmp .ge 12, 3, 0, 0), zE, zE, (.aload_n 0, 1, 0, 0), (.getfield 15, 3, 3, 0), zE, zE, (.iload_n 2, 1, 0, 0), (.iaload, 1, 0, 0), (.goto 4, 3, 0, 0), zE, zE, (.iconst 0, 1, 0, 0), (.lookupswitch 115 #[(99, 83), (104, 70), (108, 109), (112, 50), (116, 96)], 50, 0, 0), zE, zE, zE, zE, zE, zE, zE, zE, zE, zE, zE, zE, zE, zE, zE, zE, zE, zE, zE, zE, zE, zE, zE, zE, zE, zE, zE, zE, zE, zE, zE, zE, zE, zE, zE, zE, zE, zE, zE, zE, zE, zE, zE, zE, zE, zE, zE, zE, zE, (.aload_n 1, 1, 0, 0), (.iload_n 3, 1, 0, 0), (.aload_n 0, 1, 0, 0), (.iload_n 2, 1, 0, 0), (.iconst 2, 1, 0, 0), (.iadd, 1, 0, 0), (.invokevirtual 31, 3, 11, 0), zE, zE, (.aload_n 0, 1, 0, 0), (.iload_n 2, 1, 0, 0), (.iconst 3, 1, 0, 0), (.iadd, 1, 0, 0), (.invokevirtual 34, 3, 12, 0), zE, zE, (.invokestatic 37, 3, 15, 0), zE, zE, (.ireturn, 1, 0, 0), (.aload_n 1, 1, 0, 0), (.iload_n 3, 1, 0, 0), (.aload_n 0, 1, 0, 0), (.iload_n 2, 1, 0, 0), (.iconst 2, 1, 0, 0), (.iadd, 1, 0, 0), (.invokevirtual 34, 3, 12, 0), zE, zE, (.invokestatic 41, 3, 17, 0), zE, zE, (.ireturn, 1, 0, 0), (.aload_n 1, 1, 0, 0), (.iload_n 3, 1, 0, 0), (.aload_n 0, 1, 0, 0), (.iload_n 2, 1, 0, 0), (.iconst 2, 1, 0, 0), (.iadd, 1, 0, 0), (.invokevirtual 34, 3, 12, 0), zE, zE, (.invokestatic 45, 3, 19, 0), zE, zE, (.ireturn, 1, 0, 0), (.aload_n 1, 1, 0, 0), (.iload_n 3, 1, 0, 0), (.aload_n 0, 1, 0, 0), (.iload_n 2, 1, 0, 0), (.iconst 2, 1, 0, 0), (.iadd, 1, 0, 0), (.invokevirtual 31, 3, 11, 0), zE, zE, (.invokestatic 48, 3, 21, 0), zE, zE, (.ireturn, 1, 0, 0), (.aload_n 1, 1, 0, 0), (.iload_n 3, 1, 0, 0), (.invokestatic 51, 3, 22, 0), zE, zE, (.ireturn, 1, 0, 0), (.aload_n 0, 1, 0, 0), (.iload_n 2, 1, 0, 0), (.iconst 1, 1, 0, 0), (.iadd, 1, 0, 0), (.invokevirtual 34, 3, 12, 0), zE, zE, (.istore 4, 2, 0, 0), zE, (.iload 4, 2, 0, 0), zE, (.iconst 1, 1, 0, 0), (.if_icmp .lt 19, 3, 0, 0), zE, zE, (.iload 4, 2, 0, 0), zE, (.bipush 12, 2, 0, 0), zE, (.if_icmp .gt 12, 3, 0, 0), zE, zE, (.aload_n 1, 1, 0, 0), (.iload 4, 2, 0, 0), zE, (.invokevirtual 54, 3, 23, 0), zE, zE, (.ifCond .ne 5, 3, 0, 0), zE, zE, (.iconst 0, 1, 0, 0), (.ireturn, 1, 0, 0), (.aload_n 1, 1, 0, 0), (.iload 4, 2, 0, 0), zE, (.invokevirtual 60, 3, 30, 0), zE, zE, (.iconst 1, 1, 0, 0), (.ireturn, 1, 0, 0)]
def E32 : List Ent := [(.iload_n 0, 1, 0, 0), (.tableswitch 95 99 116 #[89, 95, 95, 95, 95, 89, 95, 95, 95, 93, 95, 91, 95, 87, 95, 95, 95, 91], 87, 0, 0), zE, zE, zE, zE, zE, zE, zE, zE, zE, zE, zE, zE, zE, zE, zE, zE, zE, zE, zE, zE, zE, zE, zE, zE, zE, zE, zE, zE, zE, zE, zE, zE, zE, zE, zE, zE, zE, zE, zE, zE, zE, zE, zE, zE, zE, zE, zE, zE, zE, zE, zE, zE, zE, zE, zE, zE, zE, zE, zE, zE, zE, zE, zE, zE, zE, zE, zE, zE, zE, zE, zE, zE, zE, zE, zE, zE, zE, zE, zE, zE, zE, zE, zE, zE, zE, zE, (.iconst 4, 1, 0, 0), (.ireturn, 1, 0, 0), (.iconst 3, 1, 0, 0), (.ireturn, 1, 0, 0), (.iconst 2, 1, 0, 0), (.ireturn, 1, 0, 0), (.iconst 1, 1, 0, 0), (.ireturn, 1, 0, 0), (.bipush (-2), 2, 0, 0), zE, (.ireturn, 1, 0, 0)]
def E33 : List Ent := [(.iload_n 0, 1, 0, 0), (.iconst (-1), 1, 0, 0), (.if_icmp .ne 8, 3, 0, 0), zE, zE, (.iload_n 1, 1, 0, 0), (.invokestatic 23, 3, 32, 0), zE, zE, (.ireturn, 1, 0, 0), (.iload_n 0, 1, 0, 0), (.ifCond .ne 16, 3, 0, 0), zE, zE, (.iload_n 1, 1, 0, 0), (.bipush 59, 2, 0, 0), zE, (.if_icmp .ne 7, 3, 0, 0), zE, zE, (.iconst (-1), 1, 0, 0), (.goto 5, 3, 0, 0), zE, zE, (.bipush (-2), 2, 0, 0), zE, (.ireturn, 1, 0, 0), (.iload_n 1, 1, 0, 0), (.bipush 48, 2, 0, 0), zE, (.if_icmp .lt 15, 3, 0, 0), zE, zE, (.iload_n 1, 1, 0, 0), (.bipush 57, 2, 0, 0), zE, (.if_icmp .gt 9, 3, 0, 0), zE, zE, (.iload_n 0, 1, 0, 0), (.iconst 1, 1, 0, 0), (.isub, 1, 0, 0), (.goto 5, 3, 0, 0), zE, zE, (.bipush (-2), 2, 0, 0), zE, (.ireturn, 1, 0, 0)]
def E34 : List Ent := [(.iconst (-1), 1, 0, 0), (.istore_n 1, 1, 0, 0), (.iconst 0, 1, 0, 0), (.istore_n 2, 1, 0, 0), (.iload_n 2, 1, 0, 0), (.aload_n 0, 1, 0, 0), (.getfield 11, 3, 3, 1), zE, zE, (.if_icmp .ge 32, 3, 0, 0), zE, zE, (.iload_n 1, 1, 0, 0), (.aload_n 0, 1, 0, 0), (.getfield 15, 3, 3, 0), zE, zE, (.iload_n 2, 1, 0, 0), (.iaload, 1, 0, 0), (.invokestatic 19, 3, 33, 0), zE, zE, (.istore_n 1, 1, 0, 0), (.iload_n 1, 1, 0, 0), (.bipush (-2), 2, 0, 0), zE, (.if_icmp .ne 9, 3, 0, 0), zE, zE, (.sipush (-1000), 3, 0, 0), zE, zE, (.iload_n 2, 1, 0, 0), (.isub, 1, 0, 0), (.ireturn, 1, 0, 0), (.iinc 2 1, 3, 0, 0), zE, zE, (.goto (-34), 3, 0, 0), zE, zE, (.aload_n 0, 1, 0, 0), (.getfield 11, 3, 3, 1), zE, zE, (.ifCond .eq 8, 3, 0, 0), zE, zE, (.iload_n 1, 1, 0, 0), (.iconst (-1), 1, 0, 0), (.if_icmp .eq 14, 3, 0, 0), zE, zE, (.sipush (-1000), 3, 0, 0), zE, zE, (.aload_n 0, 1, 0, 0), (.getfield 11, 3, 3, 1), zE, zE, (.isub, 1, 0, 0), (.goto 4, 3, 0, 0), zE, zE, (.iconst 0, 1, 0, 0), (.ireturn, 1, 0, 0)]
def E35 : List Ent := [(.aload_n 0, 1, 0, 0), (.invokespecial 1, 3, 0, 1), zE, zE, (.aload_n 0, 1, 0, 0), (.iconst 0, 1, 0, 0), (.iload_n 1, 1, 0, 0), (.invokestatic 7, 3, 0, 2), zE, zE, (.newarray .int, 2, 0, 0), zE, (.putfield 13, 3, 34, 0), zE, zE, (.aload_n 0, 1, 0, 0), (.iconst 0, 1, 0, 0), (.putfield 19, 3, 34, 1), zE, zE, (.return_, 1, 0, 0)]
def E36 : List Ent := [(.aload_n 0, 1, 0, 0), (.bipush 96, 2, 0, 0), zE, (.invokespecial 5, 3, 35, 0), zE, zE, (.return_, 1, 0, 0)]
def E37 : List Ent := [(.iconst 0, 1, 0, 0), (.istore_n 2, 1, 0, 0), (.iconst 0, 1, 0, 0), (.istore_n 3, 1, 0, 0), (.iload_n 3, 1, 0, 0), (.aload_n 0, 1, 0, 0), (.getfield 11, 3, 3, 1), zE, zE, (.if_icmp .ge 44, 3, 0, 0), zE, zE, (.iload_n 3, 1, 0, 0), (.ifCond .eq 16, 3, 0, 0), zE, zE, (.aload_n 0, 1, 0, 0), (.getfield 15, 3, 3, 0), zE, zE, (.iload_n 3, 1, 0, 0), (.iconst 1, 1, 0, 0), (.isub, 1, 0, 0), (.iaload, 1, 0, 0), (.bipush 59, 2, 0, 0), zE, (.if_icmp .ne 21, 3, 0, 0), zE, zE, (.aload_n 0, 1, 0, 0), (.aload_n 1, 1, 0, 0), (.iload_n 3, 1, 0, 0), (.invokevirtual 27, 3, 31, 0), zE, zE, (.ifCond .ne 9, 3, 0, 0), zE, zE, (.sipush (-2000), 3, 0, 0), zE, zE, (.iload_n 3, 1, 0, 0), (.isub, 1, 0, 0), (.ireturn, 1, 0, 0), (.iinc 2 1, 3, 0, 0), zE, zE, (.iinc 3 1, 3, 0, 0), zE, zE, (.goto (-46), 3, 0, 0), zE, zE, (.iload_n 2, 1, 0, 0), (.ireturn, 1, 0, 0)]
def E38 : List Ent := [(.aload_n 0, 1, 0, 0), (.getfield 19, 3, 34, 1), zE, zE, (.aload_n 0, 1, 0, 0), (.getfield 13, 3, 34, 0), zE, zE, (.arraylength, 1, 0, 0), (.if_icmp .lt 7, 3, 0, 0), zE, zE, (.iconst 1, 1, 0, 0), (.goto 4, 3, 0, 0), zE, zE, (.iconst 0, 1, 0, 0), (.ireturn, 1, 0, 0)]
def E39 : List Ent := [(.aload_n 0, 1, 0, 0), (.invokevirtual 23, 3, 38, 34), zE, zE, (.ifCond .ne 23, 3, 0, 0), zE, zE, (.aload_n 0, 1, 0, 0), (.getfield 13, 3, 34, 0), zE, zE, (.aload_n 0, 1, 0, 0), (.getfield 19, 3, 34, 1), zE, zE, (.iload_n 1, 1, 0, 0), (.iastore, 1, 0, 0), (.aload_n 0, 1, 0, 0), (.dup, 1, 0, 0), (.getfield 19, 3, 34, 1), zE, zE, (.iconst 1, 1, 0, 0), (.iadd, 1, 0, 0), (.putfield 19, 3, 34, 1), zE, zE, (.aload_n 0, 1, 0, 0), (.getfield 19, 3, 34, 1), zE, zE, (.ireturn, 1, 0, 0)]
def E40 : List Ent := [(.aload_n 0, 1, 0, 0), (.iconst 0, 1, 0, 0), (.putfield 19, 3, 34, 1), zE, zE, (.return_, 1, 0, 0)]
def E41 : List Ent := [(.aload_n 0, 1, 0, 0), (.getfield 19, 3, 34, 1), zE, zE, (.ireturn, 1, 0, 0)]
def E42 : List Ent := [(.iconst 0, 1, 0, 0), (.istore_n 3, 1, 0, 0), (.iload_n 3, 1, 0, 0), (.aload_n 0, 1, 0, 0), (.getfield 11, 3, 4, 1), zE, zE, (.if_icmp .ge 34, 3, 0, 0), zE, zE, (.iload_n 3, 1, 0, 0), (.iload_n 2, 1, 0, 0), (.if_icmp .ge 21, 3, 0, 0), zE, zE, (.iload_n 3, 1, 0, 0), (.aload_n 1, 1, 0, 0), (.arraylength, 1, 0, 0), (.if_icmp .ge 15, 3, 0, 0), zE, zE, (.aload_n 0, 1, 0, 0), (.getfield 15, 3, 4, 0), zE, zE, (.iload_n 3, 1, 0, 0), (.iaload, 1, 0, 0), (.aload_n 1, 1, 0, 0), (.iload_n 3, 1, 0, 0), (.iaload, 1, 0, 0), (.if_icmp .eq 5, 3, 0, 0), zE, zE, (.iload_n 3, 1, 0, 0), (.ireturn, 1, 0, 0), (.iinc 3 1, 3, 0, 0), zE, zE, (.goto (-36), 3, 0, 0), zE, zE, (.bipush (-9), 2, 0, 0), zE, (.ireturn, 1, 0, 0)]
def E43 : List Ent := [(.iconst 0, 1, 0, 0), (.istore_n 3, 1, 0, 0), (.iload_n 3, 1, 0, 0), (.aload_n 0, 1, 0, 0), (.getfield 11, 3, 4, 1), zE, zE, (.if_icmp .ge 29, 3, 0, 0), zE, zE, (.aload_n 0, 1, 0, 0), (.getfield 15, 3, 4, 0), zE, zE, (.iload_n 3, 1, 0, 0), (.iaload, 1, 0, 0), (.iconst 0, 1, 0, 0), (.iload_n 1, 1, 0, 0), (.iload_n 3, 1, 0, 0), (.iload_n 2, 1, 0, 0), (.imul, 1, 0, 0), (.isub, 1, 0, 0), (.invokestatic 19, 3, 0, 2), zE, zE, (.if_icmp .eq 5, 3, 0, 0), zE, zE, (.iconst 0, 1, 0, 0), (.ireturn, 1, 0, 0), (.iinc 3 1, 3, 0, 0), zE, zE, (.goto (-31), 3, 0, 0), zE, zE, (.iconst 1, 1, 0, 0), (.ireturn, 1, 0, 0)]
def E44 : List Ent := [(.aload_n 0, 1, 0, 0), (.bipush 12, 2, 0, 0), zE, (.invokespecial 5, 3, 35, 0), zE, zE, (.return_, 1, 0, 0)]
def E45 : List Ent := [(.iconst 0, 1, 0, 0), (.istore_n 2, 1, 0, 0), (.iconst 0, 1, 0, 0), (.istore_n 3, 1, 0, 0), (.iload_n 3, 1, 0, 0), (.aload_n 0, 1, 0, 0), (.getfield 40, 3, 1, 9), zE, zE, (.if_icmp .ge 21, 3, 0, 0), zE, zE, (.iload_n 3, 1, 0, 0), (.aload_n 1, 1, 0, 0), (.arraylength, 1, 0, 0), (.if_icmp .ge 15, 3, 0, 0), zE, zE, (.iload_n 2, 1, 0, 0), (.aload_n 1, 1, 0, 0), (.iload_n 3, 1, 0, 0), (.iaload, 1, 0, 0), (.iadd, 1, 0, 0), (.istore_n 2, 1, 0, 0), (.iinc 3 1, 3, 0, 0), zE, zE, (.goto (-23), 3, 0, 0), zE, zE, (.iload_n 2, 1, 0, 0), (.ireturn, 1, 0, 0)]
def E46 : List Ent := [(.aload_n 0, 1, 0, 0), (.aload_n 0, 1, 0, 0), (.getfield 24, 3, 1, 4), zE, zE, (.invokevirtual 112, 3, 45, 0), zE, zE, (.ireturn, 1, 0, 0)]
def E47 : List Ent := [(.aload_n 0, 1, 0, 0), (.aload_n 0, 1, 0, 0), (.getfield 18, 3, 1, 2), zE, zE, (.invokevirtual 112, 3, 45, 0), zE, zE, (.ireturn, 1, 0, 0)]
def E48 : List Ent := [(.aload_n 0, 1, 0, 0), (.aload_n 0, 1, 0, 0), (.getfield 31, 3, 1, 6), zE, zE, (.invokevirtual 112, 3, 45, 0), zE, zE, (.ireturn, 1, 0, 0)]
def E49 : List Ent := [(.aload_n 0, 1, 0, 0), (.iload_n 1, 1, 0, 0), (.aload_n 0, 1, 0, 0), (.getfield 18, 3, 1, 2), zE, zE, (.iload_n 1, 1, 0, 0), (.iaload, 1, 0, 0), (.invokevirtual 63, 3, 26, 0), zE, zE, (.ireturn, 1, 0, 0)]
def E50 : List Ent := [(.iconst 0, 1, 0, 0), (.istore_n 1, 1, 0, 0), (.iconst 0, 1, 0, 0), (.istore_n 2, 1, 0, 0), (.iload_n 2, 1, 0, 0), (.aload_n 0, 1, 0, 0), (.getfield 40, 3, 1, 9), zE, zE, (.if_icmp .ge 21, 3, 0, 0), zE, zE, (.aload_n 0, 1, 0, 0), (.getfield 24, 3, 1, 4), zE, zE, (.iload_n 2, 1, 0, 0), (.iaload, 1, 0, 0), (.ifCond .ne 6, 3, 0, 0), zE, zE, (.iinc 1 1, 3, 0, 0), zE, zE, (.iinc 2 1, 3, 0, 0), zE, zE, (.goto (-23), 3, 0, 0), zE, zE, (.iload_n 1, 1, 0, 0), (.ireturn, 1, 0, 0)]
def E51 : List Ent := [(.iconst 0, 1, 0, 0), (.istore_n 1, 1, 0, 0), (.iconst 0, 1, 0, 0), (.istore_n 2, 1, 0, 0), (.iload_n 2, 1, 0, 0), (.aload_n 0, 1, 0, 0), (.getfield 40, 3, 1, 9), zE, zE, (.if_icmp .ge 24, 3, 0, 0), zE, zE, (.aload_n 0, 1, 0, 0), (.getfield 27, 3, 1, 5), zE, zE, (.iload_n 2, 1, 0, 0), (.baload, 1, 0, 0), (.ifCond .eq 9, 3, 0, 0), zE, zE, (.iload_n 1, 1, 0, 0), (.iconst 1, 1, 0, 0), (.iload_n 2, 1, 0, 0), (.ishl, 1, 0, 0), (.ior, 1, 0, 0), (.istore_n 1, 1, 0, 0), (.iinc 2 1, 3, 0, 0), zE, zE, (.goto (-26), 3, 0, 0), zE, zE, (.iload_n 1, 1, 0, 0), (.ireturn, 1, 0, 0)]
def E52 : List Ent := [(.aload_n 0, 1, 0, 0), (.invokevirtual 102, 3, 51, 0), zE, zE, (.invokestatic 106, 3, 0, 0), zE, zE, (.ireturn, 1, 0, 0)]
def E53 : List Ent := [(.aload_n 0, 1, 0, 0), (.iload_n 1, 1, 0, 0), (.iload_n 2, 1, 0, 0), (.invokevirtual 63, 3, 26, 0), zE, zE, (.istore_n 3, 1, 0, 0), (.iload_n 3, 1, 0, 0), (.iconst 1, 1, 0, 0), (.if_icmp .ge 6, 3, 0, 0), zE, zE, (.bipush 99, 2, 0, 0), zE, (.ireturn, 1, 0, 0), (.bipush 99, 2, 0, 0), zE, (.aload_n 0, 1, 0, 0), (.getfield 24, 3, 1, 4), zE, zE, (.iload_n 1, 1, 0, 0), (.iaload, 1, 0, 0), (.iload_n 3, 1, 0, 0), (.iadd, 1, 0, 0), (.iconst 1, 1, 0, 0), (.isub, 1, 0, 0), (.iload_n 3, 1, 0, 0), (.idiv, 1, 0, 0), (.invokestatic 51, 3, 0, 1), zE, zE, (.ireturn, 1, 0, 0)]
def E54 : List Ent := [(.aload_n 0, 1, 0, 0), (.iload_n 1, 1, 0, 0), (.aload_n 0, 1, 0, 0), (.getfield 18, 3, 1, 2), zE, zE, (.iload_n 1, 1, 0, 0), (.iaload, 1, 0, 0), (.invokevirtual 69, 3, 53, 0), zE, zE, (.ireturn, 1, 0, 0)]
def E55 : List Ent := [(.aload_n 0, 1, 0, 0), (.iload_n 1, 1, 0, 0), (.aload_n 0, 1, 0, 0), (.iload_n 1, 1, 0, 0), (.iload_n 2, 1, 0, 0), (.invokevirtual 72, 3, 24, 0), zE, zE, (.invokevirtual 69, 3, 53, 0), zE, zE, (.ireturn, 1, 0, 0)]
def E56 : List Ent := [(.iconst 0, 1, 0, 0), (.istore_n 2, 1, 0, 0), (.iload_n 2, 1, 0, 0), (.iload_n 1, 1, 0, 0), (.if_icmp .ge 13, 3, 0, 0), zE, zE, (.aload_n 0, 1, 0, 0), (.invokevirtual 86, 3, 27, 0), zE, zE, (.iinc 2 1, 3, 0, 0), zE, zE, (.goto (-12), 3, 0, 0), zE, zE, (.return_, 1, 0, 0)]
def E57 : List Ent := [(.aload_n 0, 1, 0, 0), (.getfield 9, 3, 1, 0), zE, zE, (.iload_n 1, 1, 0, 0), (.iaload, 1, 0, 0), (.aload_n 0, 1, 0, 0), (.getfield 15, 3, 1, 1), zE, zE, (.iload_n 1, 1, 0, 0), (.iaload, 1, 0, 0), (.aload_n 0, 1, 0, 0), (.getfield 18, 3, 1, 2), zE, zE, (.iload_n 1, 1, 0, 0), (.iaload, 1, 0, 0), (.aload_n 0, 1, 0, 0), (.getfield 21, 3, 1, 3), zE, zE, (.iload_n 1, 1, 0, 0), (.iaload, 1, 0, 0), (.invokestatic 57, 3, 3, 0), zE, zE, (.ireturn, 1, 0, 0)]
def E58 : List Ent := [(.iload_n 0, 1, 0, 0), (.iload_n 1, 1, 0, 0), (.if_icmp .ge 6, 3, 0, 0), zE, zE, (.bipush (-4), 2, 0, 0), zE, (.ireturn, 1, 0, 0), (.iload_n 0, 1, 0, 0), (.iload_n 2, 1, 0, 0), (.if_icmp .le 8, 3, 0, 0), zE, zE, (.bipush (-6), 2, 0, 0), zE, (.goto 4, 3, 0, 0), zE, zE, (.iconst 0, 1, 0, 0), (.ireturn, 1, 0, 0)]
def E59 : List Ent := [(.iload_n 1, 1, 0, 0), (.ineg, 1, 0, 0), (.istore_n 2, 1, 0, 0), (.iload_n 2, 1, 0, 0), (.ifCond .le 22, 3, 0, 0), zE, zE, (.iload_n 2, 1, 0, 0), (.aload_n 0, 1, 0, 0), (.getfield 47, 3, 0, 7), zE, zE, (.arraylength, 1, 0, 0), (.if_icmp .ge 13, 3, 0, 0), zE, zE, (.aload_n 0, 1, 0, 0), (.getfield 47, 3, 0, 7), zE, zE, (.iload_n 2, 1, 0, 0), (.dup2, 1, 0, 0), (.iaload, 1, 0, 0), (.iconst 1, 1, 0, 0), (.iadd, 1, 0, 0), (.iastore, 1, 0, 0), (.iload_n 1, 1, 0, 0), (.ireturn, 1, 0, 0)]
def E60 : List Ent := [(.iload_n 1, 1, 0, 0), (.iconst 0, 1, 0, 0), (.sipush 999, 3, 0, 0), zE, zE, (.invokestatic 51, 3, 58, 0), zE, zE, (.istore_n 2, 1, 0, 0), (.iload_n 2, 1, 0, 0), (.ifCond .eq 9, 3, 0, 0), zE, zE, (.aload_n 0, 1, 0, 0), (.iload_n 2, 1, 0, 0), (.invokevirtual 59, 3, 59, 0), zE, zE, (.ireturn, 1, 0, 0), (.iconst 0, 1, 0, 0), (.istore_n 3, 1, 0, 0), (.iconst 0, 1, 0, 0), (.istore 4, 2, 0, 0), zE, (.iload 4, 2, 0, 0), zE, (.aload_n 0, 1, 0, 0), (.getfield 10, 3, 0, 0), zE, zE, (.getfield 136, 3, 1, 9), zE, zE, (.if_icmp .ge 25, 3, 0, 0), zE, zE, (.aload_n 0, 1, 0, 0), (.getfield 10, 3, 0, 0), zE, zE, (.iload 4, 2, 0, 0), zE, (.invokevirtual 121, 3, 57, 0), zE, zE, (.iload_n 1, 1, 0, 0), (.if_icmp .lt 6, 3, 0, 0), zE, zE, (.iinc 3 1, 3, 0, 0), zE, zE, (.iinc 4 1, 3, 0, 0), zE, zE, (.goto (-31), 3, 0, 0), zE, zE, (.iload_n 3, 1, 0, 0), (.ireturn, 1, 0, 0)]
def E61 : List Ent := [(.iload_n 0, 1, 0, 0), (.ifCond .lt 8, 3, 0, 0), zE, zE, (.iload_n 0, 1, 0, 0), (.iload_n 1, 1, 0, 0), (.if_icmp .le 8, 3, 0, 0), zE, zE, (.bipush (-2), 2, 0, 0), zE, (.goto 4, 3, 0, 0), zE, zE, (.iconst 0, 1, 0, 0), (.ireturn, 1, 0, 0)]
def E62 : List Ent := [(.iload_n 0, 1, 0, 0), (.ifCond .eq 7, 3, 0, 0), zE, zE, (.iload_n 0, 1, 0, 0), (.goto 4, 3, 0, 0), zE, zE, (.iload_n 1, 1, 0, 0), (.ireturn, 1, 0, 0)]
def E63 : List Ent := [(.iload_n 1, 1, 0, 0), (.iconst 0, 1, 0, 0), (.bipush 99, 2, 0, 0), zE, (.invokestatic 51, 3, 58, 0), zE, zE, (.iload_n 2, 1, 0, 0), (.iconst 1, 1, 0, 0), (.invokestatic 85, 3, 61, 0), zE, zE, (.invokestatic 89, 3, 62, 0), zE, zE, (.istore_n 3, 1, 0, 0), (.iload_n 3, 1, 0, 0), (.ifCond .eq 9, 3, 0, 0), zE, zE, (.aload_n 0, 1, 0, 0), (.iload_n 3, 1, 0, 0), (.invokevirtual 59, 3, 59, 0), zE, zE, (.ireturn, 1, 0, 0), (.aload_n 0, 1, 0, 0), (.getfield 16, 3, 0, 1), zE, zE, (.aload_n 0, 1, 0, 0), (.getfield 10, 3, 0, 0), zE, zE, (.invokevirtual 70, 3, 7, 0), zE, zE, (.aload_n 0, 1, 0, 0), (.getfield 16, 3, 0, 1), zE, zE, (.iload_n 1, 1, 0, 0), (.invokevirtual 158, 3, 56, 0), zE, zE, (.iload_n 2, 1, 0, 0), (.ifCond .ne 13, 3, 0, 0), zE, zE, (.aload_n 0, 1, 0, 0), (.getfield 16, 3, 0, 1), zE, zE, (.invokevirtual 162, 3, 52, 0), zE, zE, (.goto 10, 3, 0, 0), zE, zE, (.aload_n 0, 1, 0, 0), (.getfield 16, 3, 0, 1), zE, zE, (.invokevirtual 165, 3, 48, 0), zE, zE, (.ireturn, 1, 0, 0)]
def E64 : List Ent := [(.aload_n 0, 1, 0, 0), (.getfield 10, 3, 0, 0), zE, zE, (.getfield 136, 3, 1, 9), zE, zE, (.ifCond .ne 5, 3, 0, 0), zE, zE, (.iconst 0, 1, 0, 0), (.ireturn, 1, 0, 0), (.aload_n 0, 1, 0, 0), (.getfield 10, 3, 0, 0), zE, zE, (.iconst 0, 1, 0, 0), (.invokevirtual 121, 3, 57, 0), zE, zE, (.istore_n 1, 1, 0, 0), (.iload_n 1, 1, 0, 0), (.istore_n 2, 1, 0, 0), (.iconst 1, 1, 0, 0), (.istore_n 3, 1, 0, 0), (.iload_n 3, 1, 0, 0), (.aload_n 0, 1, 0, 0), (.getfield 10, 3, 0, 0), zE, zE, (.getfield 136, 3, 1, 9), zE, zE, (.if_icmp .ge 35, 3, 0, 0), zE, zE, (.iload_n 1, 1, 0, 0), (.aload_n 0, 1, 0, 0), (.getfield 10, 3, 0, 0), zE, zE, (.iload_n 3, 1, 0, 0), (.invokevirtual 121, 3, 57, 0), zE, zE, (.invokestatic 220, 3, 0, 2), zE, zE, (.istore_n 1, 1, 0, 0), (.iload_n 2, 1, 0, 0), (.aload_n 0, 1, 0, 0), (.getfield 10, 3, 0, 0), zE, zE, (.iload_n 3, 1, 0, 0), (.invokevirtual 121, 3, 57, 0), zE, zE, (.invokestatic 201, 3, 0, 1), zE, zE, (.istore_n 2, 1, 0, 0), (.iinc 3 1, 3, 0, 0), zE, zE, (.goto (-40), 3, 0, 0), zE, zE, (.iload_n 1, 1, 0, 0), (.iload_n 2, 1, 0, 0), (.isub, 1, 0, 0), (.ireturn, 1, 0, 0)]
def E65 : List Ent := [(.aload_n 0, 1, 0, 0), (.getfield 29, 3, 0, 4), zE, zE, (.invokevirtual 171, 3, 9, 0), zE, zE, (.ifCond .ne 10, 3, 0, 0), zE, zE, (.aload_n 0, 1, 0, 0), (.bipush (-3), 2, 0, 0), zE, (.invokevirtual 59, 3, 59, 0), zE, zE, (.ireturn, 1, 0, 0), (.aload_n 0, 1, 0, 0), (.getfield 29, 3, 0, 4), zE, zE, (.aload_n 0, 1, 0, 0), (.getfield 10, 3, 0, 0), zE, zE, (.invokevirtual 174, 3, 10, 0), zE, zE, (.aload_n 0, 1, 0, 0), (.getfield 29, 3, 0, 4), zE, zE, (.invokevirtual 171, 3, 9, 0), zE, zE, (.ireturn, 1, 0, 0)]
def E66 : List Ent := [(.aload_n 0, 1, 0, 0), (.getfield 10, 3, 0, 0), zE, zE, (.iload_n 1, 1, 0, 0), (.invokevirtual 284, 3, 16, 0), zE, zE, (.ifCond .eq 7, 3, 0, 0), zE, zE, (.iconst 0, 1, 0, 0), (.goto 4, 3, 0, 0), zE, zE, (.iconst (-1), 1, 0, 0), (.ireturn, 1, 0, 0)]
def E67 : List Ent := [(.iload_n 0, 1, 0, 0), (.iload_n 1, 1, 0, 0), (.iload_n 2, 1, 0, 0), (.invokestatic 89, 3, 62, 0), zE, zE, (.invokestatic 89, 3, 62, 0), zE, zE, (.ireturn, 1, 0, 0)]
def E68 : List Ent := [(.iload_n 0, 1, 0, 0), (.ifCond .eq 7, 3, 0, 0), zE, zE, (.iconst 1, 1, 0, 0), (.goto 4, 3, 0, 0), zE, zE, (.iconst 0, 1, 0, 0), (.ireturn, 1, 0, 0)]
def E69 : List Ent := [(.aload_n 0, 1, 0, 0), (.iload_n 1, 1, 0, 0), (.invokevirtual 82, 3, 66, 0), zE, zE, (.iload_n 2, 1, 0, 0), (.iconst 0, 1, 0, 0), (.bipush 99, 2, 0, 0), zE, (.invokestatic 51, 3, 58, 0), zE, zE, (.iload_n 3, 1, 0, 0), (.iconst 2, 1, 0, 0), (.invokestatic 85, 3, 61, 0), zE, zE, (.invokestatic 140, 3, 67, 0), zE, zE, (.istore 4, 2, 0, 0), zE, (.iload 4, 2, 0, 0), zE, (.ifCond .eq 10, 3, 0, 0), zE, zE, (.aload_n 0, 1, 0, 0), (.iload 4, 2, 0, 0), zE, (.invokevirtual 59, 3, 59, 0), zE, zE, (.ireturn, 1, 0, 0), (.aload_n 0, 1, 0, 0), (.getfield 16, 3, 0, 1), zE, zE, (.aload_n 0, 1, 0, 0), (.getfield 10, 3, 0, 0), zE, zE, (.invokevirtual 70, 3, 7, 0), zE, zE, (.aload_n 0, 1, 0, 0), (.getfield 16, 3, 0, 1), zE, zE, (.iload_n 2, 1, 0, 0), (.invokevirtual 158, 3, 56, 0), zE, zE, (.iload_n 3, 1, 0, 0), (.lookupswitch 46 #[(0, 26), (1, 36)], 26, 0, 0), zE, zE, zE, zE, zE, zE, zE, zE, zE, zE, zE, zE, zE, zE, zE, zE, zE, zE, zE, zE, zE, zE, zE, zE, zE, (.aload_n 0, 1, 0, 0), (.getfield 16, 3, 0, 1), zE, zE, (.getfield 104, 3, 1, 4), zE, zE, (.iload_n 1, 1, 0, 0), (.iaload, 1, 0, 0), (.ireturn, 1, 0, 0), (.aload_n 0, 1, 0, 0), (.getfield 16, 3, 0, 1), zE, zE, (.getfield 115, 3, 1, 6), zE, zE, (.iload_n 1, 1, 0, 0), (.iaload, 1, 0, 0), (.ireturn, 1, 0, 0), (.aload_n 0, 1, 0, 0), (.getfield 16, 3, 0, 1), zE, zE, (.getfield 107, 3, 1, 5), zE, zE, (.iload_n 1, 1, 0, 0), (.baload, 1, 0, 0), (.invokestatic 111, 3, 68, 0), zE, zE, (.ireturn, 1, 0, 0)]
def E70 : List Ent := [(.aload_n 0, 1, 0, 0), (.getfield 10, 3, 0, 0), zE, zE, (.iload_n 1, 1, 0, 0), (.iconst 0, 1, 0, 0), (.invokevirtual 192, 3, 53, 0), zE, zE, (.aload_n 0, 1, 0, 0), (.getfield 10, 3, 0, 0), zE, zE, (.iload_n 2, 1, 0, 0), (.aload_n 0, 1, 0, 0), (.getfield 10, 3, 0, 0), zE, zE, (.getfield 98, 3, 1, 2), zE, zE, (.iload_n 1, 1, 0, 0), (.iaload, 1, 0, 0), (.invokevirtual 198, 3, 55, 0), zE, zE, (.iadd, 1, 0, 0), (.ireturn, 1, 0, 0)]
def E71 : List Ent := [(.aload_n 0, 1, 0, 0), (.iload_n 1, 1, 0, 0), (.invokevirtual 82, 3, 66, 0), zE, zE, (.iload_n 2, 1, 0, 0), (.iconst 1, 1, 0, 0), (.invokestatic 85, 3, 61, 0), zE, zE, (.invokestatic 89, 3, 62, 0), zE, zE, (.istore_n 3, 1, 0, 0), (.iload_n 3, 1, 0, 0), (.ifCond .eq 9, 3, 0, 0), zE, zE, (.aload_n 0, 1, 0, 0), (.iload_n 3, 1, 0, 0), (.invokevirtual 59, 3, 59, 0), zE, zE, (.ireturn, 1, 0, 0), (.bipush (-9), 2, 0, 0), zE, (.istore 4, 2, 0, 0), zE, (.bipush (-9), 2, 0, 0), zE, (.istore 5, 2, 0, 0), zE, (.iconst 0, 1, 0, 0), (.istore 6, 2, 0, 0), zE, (.iload 6, 2, 0, 0), zE, (.aload_n 0, 1, 0, 0), (.getfield 10, 3, 0, 0), zE, zE, (.getfield 136, 3, 1, 9), zE, zE, (.if_icmp .ge 44, 3, 0, 0), zE, zE, (.iload 6, 2, 0, 0), zE, (.iload_n 1, 1, 0, 0), (.if_icmp .ne 8, 3, 0, 0), zE, zE, (.bipush (-9), 2, 0, 0), zE, (.goto 10, 3, 0, 0), zE, zE, (.aload_n 0, 1, 0, 0), (.iload_n 1, 1, 0, 0), (.iload 6, 2, 0, 0), zE, (.invokevirtual 195, 3, 70, 0), zE, zE, (.istore 7, 2, 0, 0), zE, (.iload 7, 2, 0, 0), zE, (.iload 5, 2, 0, 0), zE, (.if_icmp .le 11, 3, 0, 0), zE, zE, (.iload 7, 2, 0, 0), zE, (.istore 5, 2, 0, 0), zE, (.iload 6, 2, 0, 0), zE, (.istore 4, 2, 0, 0), zE, (.iinc 6 1, 3, 0, 0), zE, zE, (.goto (-50), 3, 0, 0), zE, zE, (.iload_n 2, 1, 0, 0), (.ifCond .ne 8, 3, 0, 0), zE, zE, (.iload 4, 2, 0, 0), zE, (.goto 5, 3, 0, 0), zE, zE, (.iload 5, 2, 0, 0), zE, (.ireturn, 1, 0, 0)]
def E72 : List Ent := [(.aload_n 0, 1, 0, 0), (.iload_n 1, 1, 0, 0), (.invokevirtual 82, 3, 66, 0), zE, zE, (.istore_n 2, 1, 0, 0), (.iload_n 2, 1, 0, 0), (.ifCond .eq 12, 3, 0, 0), zE, zE, (.ldc 206, 2, 0, 1000000000), zE, (.aload_n 0, 1, 0, 0), (.iload_n 2, 1, 0, 0), (.invokevirtual 59, 3, 59, 0), zE, zE, (.isub, 1, 0, 0), (.ireturn, 1, 0, 0), (.aload_n 0, 1, 0, 0), (.getfield 10, 3, 0, 0), zE, zE, (.iload_n 1, 1, 0, 0), (.invokevirtual 177, 3, 54, 0), zE, zE, (.aload_n 0, 1, 0, 0), (.getfield 10, 3, 0, 0), zE, zE, (.iload_n 1, 1, 0, 0), (.bipush 10, 2, 0, 0), zE, (.invokevirtual 198, 3, 55, 0), zE, zE, (.isub, 1, 0, 0), (.ireturn, 1, 0, 0)]
def E73 : List Ent := [(.aload_n 0, 1, 0, 0), (.getfield 10, 3, 0, 0), zE, zE, (.iload_n 1, 1, 0, 0), (.invokevirtual 284, 3, 16, 0), zE, zE, (.ifCond .eq 23, 3, 0, 0), zE, zE, (.aload_n 0, 1, 0, 0), (.getfield 10, 3, 0, 0), zE, zE, (.iload_n 2, 1, 0, 0), (.invokevirtual 284, 3, 16, 0), zE, zE, (.ifCond .eq 12, 3, 0, 0), zE, zE, (.iload_n 1, 1, 0, 0), (.iload_n 2, 1, 0, 0), (.if_icmp .eq 7, 3, 0, 0), zE, zE, (.iconst 0, 1, 0, 0), (.goto 4, 3, 0, 0), zE, zE, (.iconst (-1), 1, 0, 0), (.ireturn, 1, 0, 0)]
def E74 : List Ent := [(.aload_n 0, 1, 0, 0), (.iload_n 1, 1, 0, 0), (.iload_n 2, 1, 0, 0), (.invokevirtual 149, 3, 73, 0), zE, zE, (.iload_n 3, 1, 0, 0), (.iconst 1, 1, 0, 0), (.invokestatic 85, 3, 61, 0), zE, zE, (.invokestatic 89, 3, 62, 0), zE, zE, (.istore 4, 2, 0, 0), zE, (.iload 4, 2, 0, 0), zE, (.ifCond .eq 10, 3, 0, 0), zE, zE, (.aload_n 0, 1, 0, 0), (.iload 4, 2, 0, 0), zE, (.invokevirtual 59, 3, 59, 0), zE, zE, (.ireturn, 1, 0, 0), (.aload_n 0, 1, 0, 0), (.getfield 10, 3, 0, 0), zE, zE, (.getfield 98, 3, 1, 2), zE, zE, (.iload_n 1, 1, 0, 0), (.iaload, 1, 0, 0), (.istore 5, 2, 0, 0), zE, (.iconst 0, 1, 0, 0), (.istore 6, 2, 0, 0), zE, (.iconst (-1), 1, 0, 0), (.istore 7, 2, 0, 0), zE, (.iconst 0, 1, 0, 0), (.istore 8, 2, 0, 0), zE, (.iload 8, 2, 0, 0), zE, (.iload 5, 2, 0, 0), zE, (.if_icmp .gt 61, 3, 0, 0), zE, zE, (.aload_n 0, 1, 0, 0), (.getfield 10, 3, 0, 0), zE, zE, (.iload_n 1, 1, 0, 0), (.iload 5, 2, 0, 0), zE, (.iload 8, 2, 0, 0), zE, (.isub, 1, 0, 0), (.invokevirtual 192, 3, 53, 0), zE, zE, (.istore 9, 2, 0, 0), zE, (.aload_n 0, 1, 0, 0), (.getfield 10, 3, 0, 0), zE, zE, (.iload_n 2, 1, 0, 0), (.iload 8, 2, 0, 0), zE, (.invokevirtual 198, 3, 55, 0), zE, zE, (.istore 10, 2, 0, 0), zE, (.iload 9, 2, 0, 0), zE, (.iload 10, 2, 0, 0), zE, (.invokestatic 201, 3, 0, 1), zE, zE, (.iload 7, 2, 0, 0), zE, (.if_icmp .le 16, 3, 0, 0), zE, zE, (.iload 9, 2, 0, 0), zE, (.iload 10, 2, 0, 0), zE, (.invokestatic 201, 3, 0, 1), zE, zE, (.istore 7, 2, 0, 0), zE, (.iload 8, 2, 0, 0), zE, (.istore 6, 2, 0, 0), zE, (.iinc 8 1, 3, 0, 0), zE, zE, (.goto (-62), 3, 0, 0), zE, zE, (.iload_n 3, 1, 0, 0), (.ifCond .ne 8, 3, 0, 0), zE, zE, (.iload 6, 2, 0, 0), zE, (.goto 5, 3, 0, 0), zE, zE, (.iload 7, 2, 0, 0), zE, (.ireturn, 1, 0, 0)]
def E75 : List Ent := [(.aload_n 0, 1, 0, 0), (.getfield 43, 3, 0, 6), zE, zE, (.invokevirtual 297, 3, 41, 4), zE, zE, (.istore_n 1, 1, 0, 0), (.aload_n 0, 1, 0, 0), (.getfield 43, 3, 0, 6), zE, zE, (.invokevirtual 296, 3, 40, 4), zE, zE, (.iload_n 1, 1, 0, 0), (.ireturn, 1, 0, 0)]
def E76 : List Ent := [(.iload_n 1, 1, 0, 0), (.bipush 11, 2, 0, 0), zE, (.if_icmp .lt 19, 3, 0, 0), zE, zE, (.iload_n 1, 1, 0, 0), (.bipush 16, 2, 0, 0), zE, (.if_icmp .gt 13, 3, 0, 0), zE, zE, (.aload_n 0, 1, 0, 0), (.getfield 47, 3, 0, 7), zE, zE, (.iload_n 1, 1, 0, 0), (.bipush 10, 2, 0, 0), zE, (.isub, 1, 0, 0), (.iaload, 1, 0, 0), (.ireturn, 1, 0, 0), (.iload_n 1, 1, 0, 0), (.tableswitch 121 0 8 #[49, 57, 65, 73, 81, 89, 97, 105, 113], 49, 0, 0), zE, zE, zE, zE, zE, zE, zE, zE, zE, zE, zE, zE, zE, zE, zE, zE, zE, zE, zE, zE, zE, zE, zE, zE, zE, zE, zE, zE, zE, zE, zE, zE, zE, zE, zE, zE, zE, zE, zE, zE, zE, zE, zE, zE, zE, zE, zE, zE, (.aload_n 0, 1, 0, 0), (.getfield 10, 3, 0, 0), zE, zE, (.getfield 136, 3, 1, 9), zE, zE, (.ireturn, 1, 0, 0), (.aload_n 0, 1, 0, 0), (.getfield 10, 3, 0, 0), zE, zE, (.getfield 304, 3, 1, 10), zE, zE, (.ireturn, 1, 0, 0), (.aload_n 0, 1, 0, 0), (.getfield 10, 3, 0, 0), zE, zE, (.invokevirtual 307, 3, 51, 0), zE, zE, (.ireturn, 1, 0, 0), (.aload_n 0, 1, 0, 0), (.getfield 10, 3, 0, 0), zE, zE, (.invokevirtual 207, 3, 47, 0), zE, zE, (.ireturn, 1, 0, 0), (.aload_n 0, 1, 0, 0), (.getfield 10, 3, 0, 0), zE, zE, (.invokevirtual 229, 3, 46, 0), zE, zE, (.ireturn, 1, 0, 0), (.aload_n 0, 1, 0, 0), (.getfield 10, 3, 0, 0), zE, zE, (.invokevirtual 165, 3, 48, 0), zE, zE, (.ireturn, 1, 0, 0), (.aload_n 0, 1, 0, 0), (.getfield 36, 3, 0, 5), zE, zE, (.invokevirtual 310, 3, 41, 3), zE, zE, (.ireturn, 1, 0, 0), (.aload_n 0, 1, 0, 0), (.getfield 43, 3, 0, 6), zE, zE, (.invokevirtual 297, 3, 41, 4), zE, zE, (.ireturn, 1, 0, 0), (.aload_n 0, 1, 0, 0), (.getfield 29, 3, 0, 4), zE, zE, (.invokevirtual 171, 3, 9, 0), zE, zE, (.ireturn, 1, 0, 0), (.bipush (-9), 2, 0, 0), zE, (.ireturn, 1, 0, 0)]
def E77 : List Ent := [(.lconst 1, 1, 0, 0), (.lstore_n 2, 1, 0, 0), (.iconst 0, 1, 0, 0), (.istore 4, 2, 0, 0), zE, (.iload 4, 2, 0, 0), zE, (.iload_n 1, 1, 0, 0), (.if_icmp .ge 14, 3, 0, 0), zE, zE, (.lload_n 2, 1, 0, 0), (.iload_n 0, 1, 0, 0), (.i2l, 1, 0, 0), (.lmul, 1, 0, 0), (.lstore_n 2, 1, 0, 0), (.iinc 4 1, 3, 0, 0), zE, zE, (.goto (-14), 3, 0, 0), zE, zE, (.lload_n 2, 1, 0, 0), (.lreturn, 1, 0, 0)]
def E78 : List Ent := [(.aload_n 0, 1, 0, 0), (.getfield 10, 3, 0, 0), zE, zE, (.getfield 104, 3, 1, 4), zE, zE, (.iload_n 1, 1, 0, 0), (.iaload, 1, 0, 0), (.iload_n 2, 1, 0, 0), (.aload_n 0, 1, 0, 0), (.getfield 10, 3, 0, 0), zE, zE, (.iload_n 1, 1, 0, 0), (.invokevirtual 124, 3, 49, 0), zE, zE, (.imul, 1, 0, 0), (.isub, 1, 0, 0), (.istore 4, 2, 0, 0), zE, (.lconst 0, 1, 0, 0), (.lstore 5, 2, 0, 0), zE, (.lconst 1, 1, 0, 0), (.lstore 7, 2, 0, 0), zE, (.iconst 0, 1, 0, 0), (.istore 9, 2, 0, 0), zE, (.iload 9, 2, 0, 0), zE, (.iload_n 2, 1, 0, 0), (.if_icmp .gt 53, 3, 0, 0), zE, zE, (.iload 4, 2, 0, 0), zE, (.iconst 2, 1, 0, 0), (.iload 9, 2, 0, 0), zE, (.imul, 1, 0, 0), (.isub, 1, 0, 0), (.ifCond .le 21, 3, 0, 0), zE, zE, (.lload 5, 2, 0, 0), zE, (.lload 7, 2, 0, 0), zE, (.iload_n 3, 1, 0, 0), (.iconst 1, 1, 0, 0), (.isub, 1, 0, 0), (.iload_n 2, 1, 0, 0), (.iload 9, 2, 0, 0), zE, (.isub, 1, 0, 0), (.invokestatic 273, 3, 77, 0), zE, zE, (.lmul, 1, 0, 0), (.ladd, 1, 0, 0), (.lstore 5, 2, 0, 0), zE, (.lload 7, 2, 0, 0), zE, (.iload_n 2, 1, 0, 0), (.iload 9, 2, 0, 0), zE, (.isub, 1, 0, 0), (.i2l, 1, 0, 0), (.lmul, 1, 0, 0), (.iload 9, 2, 0, 0), zE, (.iconst 1, 1, 0, 0), (.iadd, 1, 0, 0), (.i2l, 1, 0, 0), (.ldiv, 1, 0, 0), (.lstore 7, 2, 0, 0), zE, (.iinc 9 1, 3, 0, 0), zE, zE, (.goto (-53), 3, 0, 0), zE, zE, (.lload 5, 2, 0, 0), zE, (.lreturn, 1, 0, 0)]
def E79 : List Ent := [(.lload_n 0, 1, 0, 0), (.lstore 5, 2, 0, 0), zE, (.lload_n 2, 1, 0, 0), (.lstore 7, 2, 0, 0), zE, (.lload 7, 2, 0, 0), zE, (.lconst 0, 1, 0, 0), (.lcmp, 1, 0, 0), (.ifCond .eq 21, 3, 0, 0), zE, zE, (.lload 5, 2, 0, 0), zE, (.lload 7, 2, 0, 0), zE, (.lrem, 1, 0, 0), (.lstore 9, 2, 0, 0), zE, (.lload 7, 2, 0, 0), zE, (.lstore 5, 2, 0, 0), zE, (.lload 9, 2, 0, 0), zE, (.lstore 7, 2, 0, 0), zE, (.goto (-22), 3, 0, 0), zE, zE, (.lload 5, 2, 0, 0), zE, (.lconst 0, 1, 0, 0), (.lcmp, 1, 0, 0), (.ifCond .ne 7, 3, 0, 0), zE, zE, (.iload 4, 2, 0, 0), zE, (.i2l, 1, 0, 0), (.lreturn, 1, 0, 0), (.iload 4, 2, 0, 0), zE, (.ifCond .ne 10, 3, 0, 0), zE, zE, (.lload_n 0, 1, 0, 0), (.lload 5, 2, 0, 0), zE, (.ldiv, 1, 0, 0), (.goto 7, 3, 0, 0), zE, zE, (.lload_n 2, 1, 0, 0), (.lload 5, 2, 0, 0), zE, (.ldiv, 1, 0, 0), (.lreturn, 1, 0, 0)]
def E80 : List Ent := [(.aload_n 0, 1, 0, 0), (.iload_n 1, 1, 0, 0), (.invokevirtual 82, 3, 66, 0), zE, zE, (.istore 5, 2, 0, 0), zE, (.iload 5, 2, 0, 0), zE, (.ifCond .ne 16, 3, 0, 0), zE, zE, (.iload_n 2, 1, 0, 0), (.ifCond .lt 8, 3, 0, 0), zE, zE, (.iload_n 3, 1, 0, 0), (.iconst 2, 1, 0, 0), (.if_icmp .ge 7, 3, 0, 0), zE, zE, (.bipush (-4), 2, 0, 0), zE, (.istore 5, 2, 0, 0), zE, (.iload 5, 2, 0, 0), zE, (.ifCond .ne 19, 3, 0, 0), zE, zE, (.iload_n 2, 1, 0, 0), (.bipush 8, 2, 0, 0), zE, (.if_icmp .gt 9, 3, 0, 0), zE, zE, (.iload_n 3, 1, 0, 0), (.bipush 20, 2, 0, 0), zE, (.if_icmp .le 7, 3, 0, 0), zE, zE, (.bipush (-6), 2, 0, 0), zE, (.istore 5, 2, 0, 0), zE, (.iload 5, 2, 0, 0), zE, (.iload 4, 2, 0, 0), zE, (.iconst 1, 1, 0, 0), (.invokestatic 85, 3, 61, 0), zE, zE, (.invokestatic 89, 3, 62, 0), zE, zE, (.istore 5, 2, 0, 0), zE, (.iload 5, 2, 0, 0), zE, (.ifCond .eq 15, 3, 0, 0), zE, zE, (.ldc2_w 267, 3, 0, 4000000000000000000), zE, zE, (.aload_n 0, 1, 0, 0), (.iload 5, 2, 0, 0), zE, (.invokevirtual 59, 3, 59, 0), zE, zE, (.i2l, 1, 0, 0), (.lsub, 1, 0, 0), (.lreturn, 1, 0, 0), (.aload_n 0, 1, 0, 0), (.iload_n 1, 1, 0, 0), (.iload_n 2, 1, 0, 0), (.iload_n 3, 1, 0, 0), (.invokevirtual 269, 3, 78, 0), zE, zE, (.iload_n 3, 1, 0, 0), (.iload_n 2, 1, 0, 0), (.invokestatic 273, 3, 77, 0), zE, zE, (.iload 4, 2, 0, 0), zE, (.invokestatic 277, 3, 79, 0), zE, zE, (.lreturn, 1, 0, 0)]
def E81 : List Ent := [(.iload_n 1, 1, 0, 0), (.iconst 0, 1, 0, 0), (.sipush 255, 3, 0, 0), zE, zE, (.invokestatic 51, 3, 58, 0), zE, zE, (.istore_n 2, 1, 0, 0), (.iload_n 2, 1, 0, 0), (.ifCond .ne 16, 3, 0, 0), zE, zE, (.aload_n 0, 1, 0, 0), (.getfield 36, 3, 0, 5), zE, zE, (.invokevirtual 55, 3, 38, 3), zE, zE, (.ifCond .eq 6, 3, 0, 0), zE, zE, (.bipush (-6), 2, 0, 0), zE, (.istore_n 2, 1, 0, 0), (.iload_n 2, 1, 0, 0), (.ifCond .eq 11, 3, 0, 0), zE, zE, (.aload_n 0, 1, 0, 0), (.iload_n 2, 1, 0, 0), (.invokevirtual 59, 3, 59, 0), zE, zE, (.goto 11, 3, 0, 0), zE, zE, (.aload_n 0, 1, 0, 0), (.getfield 36, 3, 0, 5), zE, zE, (.iload_n 1, 1, 0, 0), (.invokevirtual 63, 3, 39, 3), zE, zE, (.ireturn, 1, 0, 0)]
def E82 : List Ent := [(.iconst 0, 1, 0, 0), (.istore_n 2, 1, 0, 0), (.aload_n 0, 1, 0, 0), (.getfield 10, 3, 0, 0), zE, zE, (.getfield 92, 3, 1, 0), zE, zE, (.iload_n 1, 1, 0, 0), (.iaload, 1, 0, 0), (.istore_n 3, 1, 0, 0), (.iconst 0, 1, 0, 0), (.istore 4, 2, 0, 0), zE, (.iload 4, 2, 0, 0), zE, (.bipush 9, 2, 0, 0), zE, (.if_icmp .gt 67, 3, 0, 0), zE, zE, (.iload_n 3, 1, 0, 0), (.iload 4, 2, 0, 0), zE, (.aload_n 0, 1, 0, 0), (.getfield 10, 3, 0, 0), zE, zE, (.getfield 98, 3, 1, 2), zE, zE, (.iload_n 1, 1, 0, 0), (.iaload, 1, 0, 0), (.aload_n 0, 1, 0, 0), (.getfield 10, 3, 0, 0), zE, zE, (.getfield 101, 3, 1, 3), zE, zE, (.iload_n 1, 1, 0, 0), (.iaload, 1, 0, 0), (.invokestatic 223, 3, 3, 0), zE, zE, (.istore 5, 2, 0, 0), zE, (.aload_n 0, 1, 0, 0), (.getfield 43, 3, 0, 6), zE, zE, (.aload_n 0, 1, 0, 0), (.getfield 10, 3, 0, 0), zE, zE, (.getfield 104, 3, 1, 4), zE, zE, (.iload_n 1, 1, 0, 0), (.iaload, 1, 0, 0), (.iload_n 3, 1, 0, 0), (.iload 5, 2, 0, 0), zE, (.invokestatic 254, 3, 1, 0), zE, zE, (.invokevirtual 247, 3, 43, 0), zE, zE, (.ifCond .eq 10, 3, 0, 0), zE, zE, (.iload_n 2, 1, 0, 0), (.iconst 1, 1, 0, 0), (.iload 4, 2, 0, 0), zE, (.ishl, 1, 0, 0), (.ior, 1, 0, 0), (.istore_n 2, 1, 0, 0), (.iinc 4 1, 3, 0, 0), zE, zE, (.goto (-68), 3, 0, 0), zE, zE, (.iload_n 2, 1, 0, 0), (.ireturn, 1, 0, 0)]
def E83 : List Ent := [(.aload_n 0, 1, 0, 0), (.getfield 16, 3, 0, 1), zE, zE, (.aload_n 0, 1, 0, 0), (.getfield 10, 3, 0, 0), zE, zE, (.invokevirtual 70, 3, 7, 0), zE, zE, (.aload_n 0, 1, 0, 0), (.getfield 16, 3, 0, 1), zE, zE, (.getfield 104, 3, 1, 4), zE, zE, (.iload_n 1, 1, 0, 0), (.iload_n 2, 1, 0, 0), (.iastore, 1, 0, 0), (.aload_n 0, 1, 0, 0), (.getfield 16, 3, 0, 1), zE, zE, (.iload_n 3, 1, 0, 0), (.invokevirtual 168, 3, 30, 0), zE, zE, (.aload_n 0, 1, 0, 0), (.getfield 16, 3, 0, 1), zE, zE, (.getfield 115, 3, 1, 6), zE, zE, (.iload_n 1, 1, 0, 0), (.iaload, 1, 0, 0), (.aload_n 0, 1, 0, 0), (.getfield 10, 3, 0, 0), zE, zE, (.getfield 115, 3, 1, 6), zE, zE, (.iload_n 1, 1, 0, 0), (.iaload, 1, 0, 0), (.isub, 1, 0, 0), (.ireturn, 1, 0, 0)]
def E84 : List Ent := [(.iload_n 1, 1, 0, 0), (.iconst 1, 1, 0, 0), (.bipush 12, 2, 0, 0), zE, (.invokestatic 51, 3, 58, 0), zE, zE, (.istore_n 2, 1, 0, 0), (.iload_n 2, 1, 0, 0), (.ifCond .eq 9, 3, 0, 0), zE, zE, (.aload_n 0, 1, 0, 0), (.iload_n 2, 1, 0, 0), (.invokevirtual 59, 3, 59, 0), zE, zE, (.ireturn, 1, 0, 0), (.bipush (-9), 2, 0, 0), zE, (.istore_n 3, 1, 0, 0), (.iconst (-1), 1, 0, 0), (.istore 4, 2, 0, 0), zE, (.iconst 0, 1, 0, 0), (.istore 5, 2, 0, 0), zE, (.iload 5, 2, 0, 0), zE, (.aload_n 0, 1, 0, 0), (.getfield 10, 3, 0, 0), zE, zE, (.getfield 136, 3, 1, 9), zE, zE, (.if_icmp .ge 52, 3, 0, 0), zE, zE, (.aload_n 0, 1, 0, 0), (.iload 5, 2, 0, 0), zE, (.bipush 99, 2, 0, 0), zE, (.iload_n 1, 1, 0, 0), (.invokevirtual 287, 3, 83, 0), zE, zE, (.aload_n 0, 1, 0, 0), (.iload 5, 2, 0, 0), zE, (.aload_n 0, 1, 0, 0), (.getfield 10, 3, 0, 0), zE, zE, (.getfield 104, 3, 1, 4), zE, zE, (.iload 5, 2, 0, 0), zE, (.iaload, 1, 0, 0), (.iload_n 1, 1, 0, 0), (.invokevirtual 287, 3, 83, 0), zE, zE, (.isub, 1, 0, 0), (.istore 6, 2, 0, 0), zE, (.iload 6, 2, 0, 0), zE, (.iload 4, 2, 0, 0), zE, (.if_icmp .le 10, 3, 0, 0), zE, zE, (.iload 6, 2, 0, 0), zE, (.istore 4, 2, 0, 0), zE, (.iload 5, 2, 0, 0), zE, (.istore_n 3, 1, 0, 0), (.iinc 5 1, 3, 0, 0), zE, zE, (.goto (-58), 3, 0, 0), zE, zE, (.iload_n 3, 1, 0, 0), (.ireturn, 1, 0, 0)]
def E85 : List Ent := [(.aload_n 0, 1, 0, 0), (.iload_n 1, 1, 0, 0), (.iload_n 2, 1, 0, 0), (.invokevirtual 149, 3, 73, 0), zE, zE, (.iload_n 3, 1, 0, 0), (.iconst 1, 1, 0, 0), (.bipush 99, 2, 0, 0), zE, (.invokestatic 51, 3, 58, 0), zE, zE, (.invokestatic 89, 3, 62, 0), zE, zE, (.istore 4, 2, 0, 0), zE, (.iload 4, 2, 0, 0), zE, (.ifCond .eq 10, 3, 0, 0), zE, zE, (.aload_n 0, 1, 0, 0), (.iload 4, 2, 0, 0), zE, (.invokevirtual 59, 3, 59, 0), zE, zE, (.ireturn, 1, 0, 0), (.aload_n 0, 1, 0, 0), (.getfield 10, 3, 0, 0), zE, zE, (.getfield 98, 3, 1, 2), zE, zE, (.iload_n 1, 1, 0, 0), (.iaload, 1, 0, 0), (.istore 5, 2, 0, 0), zE, (.iconst 0, 1, 0, 0), (.istore 6, 2, 0, 0), zE, (.iload 6, 2, 0, 0), zE, (.iload 5, 2, 0, 0), zE, (.if_icmp .gt 29, 3, 0, 0), zE, zE, (.aload_n 0, 1, 0, 0), (.getfield 10, 3, 0, 0), zE, zE, (.iload_n 1, 1, 0, 0), (.iload 5, 2, 0, 0), zE, (.iload 6, 2, 0, 0), zE, (.isub, 1, 0, 0), (.invokevirtual 192, 3, 53, 0), zE, zE, (.iload_n 3, 1, 0, 0), (.if_icmp .lt 6, 3, 0, 0), zE, zE, (.iload 6, 2, 0, 0), zE, (.ireturn, 1, 0, 0), (.iinc 6 1, 3, 0, 0), zE, zE, (.goto (-30), 3, 0, 0), zE, zE, (.bipush (-9), 2, 0, 0), zE, (.ireturn, 1, 0, 0)]
def E86 : List Ent := [(.aload_n 0, 1, 0, 0), (.iload_n 1, 1, 0, 0), (.iload_n 2, 1, 0, 0), (.invokevirtual 149, 3, 73, 0), zE, zE, (.istore 4, 2, 0, 0), zE, (.iload 4, 2, 0, 0), zE, (.ifCond .ne 19, 3, 0, 0), zE, zE, (.iload_n 3, 1, 0, 0), (.iconst 0, 1, 0, 0), (.aload_n 0, 1, 0, 0), (.getfield 10, 3, 0, 0), zE, zE, (.getfield 98, 3, 1, 2), zE, zE, (.iload_n 1, 1, 0, 0), (.iaload, 1, 0, 0), (.invokestatic 51, 3, 58, 0), zE, zE, (.istore 4, 2, 0, 0), zE, (.iload 4, 2, 0, 0), zE, (.ifCond .ne 24, 3, 0, 0), zE, zE, (.aload_n 0, 1, 0, 0), (.getfield 10, 3, 0, 0), zE, zE, (.getfield 98, 3, 1, 2), zE, zE, (.iload_n 2, 1, 0, 0), (.iaload, 1, 0, 0), (.iload_n 3, 1, 0, 0), (.iadd, 1, 0, 0), (.sipush 999, 3, 0, 0), zE, zE, (.if_icmp .le 7, 3, 0, 0), zE, zE, (.bipush (-6), 2, 0, 0), zE, (.istore 4, 2, 0, 0), zE, (.iload 4, 2, 0, 0), zE, (.ifCond .eq 10, 3, 0, 0), zE, zE, (.aload_n 0, 1, 0, 0), (.iload 4, 2, 0, 0), zE, (.invokevirtual 59, 3, 59, 0), zE, zE, (.ireturn, 1, 0, 0), (.aload_n 0, 1, 0, 0), (.getfield 29, 3, 0, 4), zE, zE, (.aload_n 0, 1, 0, 0), (.getfield 10, 3, 0, 0), zE, zE, (.invokevirtual 142, 3, 8, 0), zE, zE, (.aload_n 0, 1, 0, 0), (.getfield 10, 3, 0, 0), zE, zE, (.getfield 98, 3, 1, 2), zE, zE, (.iload_n 1, 1, 0, 0), (.dup2, 1, 0, 0), (.iaload, 1, 0, 0), (.iload_n 3, 1, 0, 0), (.isub, 1, 0, 0), (.iastore, 1, 0, 0), (.aload_n 0, 1, 0, 0), (.getfield 10, 3, 0, 0), zE, zE, (.getfield 98, 3, 1, 2), zE, zE, (.iload_n 2, 1, 0, 0), (.dup2, 1, 0, 0), (.iaload, 1, 0, 0), (.iload_n 3, 1, 0, 0), (.iadd, 1, 0, 0), (.iastore, 1, 0, 0), (.aload_n 0, 1, 0, 0), (.getfield 10, 3, 0, 0), zE, zE, (.getfield 98, 3, 1, 2), zE, zE, (.iload_n 2, 1, 0, 0), (.iaload, 1, 0, 0), (.ireturn, 1, 0, 0)]
def E87 : List Ent := [(.iload_n 3, 1, 0, 0), (.aload_n 0, 1, 0, 0), (.getfield 10, 3, 0, 0), zE, zE, (.getfield 98, 3, 1, 2), zE, zE, (.iload_n 1, 1, 0, 0), (.iaload, 1, 0, 0), (.invokestatic 201, 3, 0, 1), zE, zE, (.istore 5, 2, 0, 0), zE, (.iload 4, 2, 0, 0), zE, (.aload_n 0, 1, 0, 0), (.getfield 10, 3, 0, 0), zE, zE, (.getfield 98, 3, 1, 2), zE, zE, (.iload_n 2, 1, 0, 0), (.iaload, 1, 0, 0), (.invokestatic 201, 3, 0, 1), zE, zE, (.istore 6, 2, 0, 0), zE, (.aload_n 0, 1, 0, 0), (.getfield 10, 3, 0, 0), zE, zE, (.iload_n 1, 1, 0, 0), (.iload 6, 2, 0, 0), zE, (.iload 5, 2, 0, 0), zE, (.isub, 1, 0, 0), (.invokevirtual 198, 3, 55, 0), zE, zE, (.ireturn, 1, 0, 0)]
def E88 : List Ent := [(.aload_n 0, 1, 0, 0), (.iload_n 1, 1, 0, 0), (.iload_n 2, 1, 0, 0), (.iload_n 3, 1, 0, 0), (.iload 4, 2, 0, 0), zE, (.invokevirtual 264, 3, 87, 0), zE, zE, (.aload_n 0, 1, 0, 0), (.iload_n 1, 1, 0, 0), (.iload_n 2, 1, 0, 0), (.iconst 1, 1, 0, 0), (.iload_n 3, 1, 0, 0), (.isub, 1, 0, 0), (.iload 4, 2, 0, 0), zE, (.invokevirtual 264, 3, 87, 0), zE, zE, (.if_icmp .lt 7, 3, 0, 0), zE, zE, (.iconst 1, 1, 0, 0), (.goto 4, 3, 0, 0), zE, zE, (.iconst 0, 1, 0, 0), (.ireturn, 1, 0, 0)]
def E89 : List Ent := [(.aload_n 0, 1, 0, 0), (.iload_n 1, 1, 0, 0), (.iload_n 2, 1, 0, 0), (.invokevirtual 149, 3, 73, 0), zE, zE, (.istore_n 3, 1, 0, 0), (.iload_n 3, 1, 0, 0), (.ifCond .eq 9, 3, 0, 0), zE, zE, (.aload_n 0, 1, 0, 0), (.iload_n 3, 1, 0, 0), (.invokevirtual 59, 3, 59, 0), zE, zE, (.ireturn, 1, 0, 0), (.iconst 0, 1, 0, 0), (.istore 4, 2, 0, 0), zE, (.iload 4, 2, 0, 0), zE, (.iconst 1, 1, 0, 0), (.if_icmp .gt 59, 3, 0, 0), zE, zE, (.iconst 0, 1, 0, 0), (.istore 5, 2, 0, 0), zE, (.iload 5, 2, 0, 0), zE, (.iconst 1, 1, 0, 0), (.if_icmp .gt 44, 3, 0, 0), zE, zE, (.aload_n 0, 1, 0, 0), (.iload_n 1, 1, 0, 0), (.iload_n 2, 1, 0, 0), (.iload 4, 2, 0, 0), zE, (.iload 5, 2, 0, 0), zE, (.invokevirtual 260, 3, 88, 0), zE, zE, (.ifCond .eq 25, 3, 0, 0), zE, zE, (.aload_n 0, 1, 0, 0), (.iload_n 2, 1, 0, 0), (.iload_n 1, 1, 0, 0), (.iload 5, 2, 0, 0), zE, (.iload 4, 2, 0, 0), zE, (.invokevirtual 260, 3, 88, 0), zE, zE, (.ifCond .eq 12, 3, 0, 0), zE, zE, (.bipush 10, 2, 0, 0), zE, (.iload 4, 2, 0, 0), zE, (.imul, 1, 0, 0), (.iload 5, 2, 0, 0), zE, (.iadd, 1, 0, 0), (.ireturn, 1, 0, 0), (.iinc 5 1, 3, 0, 0), zE, zE, (.goto (-44), 3, 0, 0), zE, zE, (.iinc 4 1, 3, 0, 0), zE, zE, (.goto (-59), 3, 0, 0), zE, zE, (.bipush (-9), 2, 0, 0), zE, (.ireturn, 1, 0, 0)]
def E90 : List Ent := [(.aload_n 0, 1, 0, 0), (.iload_n 1, 1, 0, 0), (.invokevirtual 82, 3, 66, 0), zE, zE, (.istore_n 2, 1, 0, 0), (.iload_n 2, 1, 0, 0), (.ifCond .eq 9, 3, 0, 0), zE, zE, (.aload_n 0, 1, 0, 0), (.iload_n 2, 1, 0, 0), (.invokevirtual 59, 3, 59, 0), zE, zE, (.ireturn, 1, 0, 0), (.aload_n 0, 1, 0, 0), (.getfield 10, 3, 0, 0), zE, zE, (.getfield 92, 3, 1, 0), zE, zE, (.iload_n 1, 1, 0, 0), (.iaload, 1, 0, 0), (.istore_n 3, 1, 0, 0), (.aload_n 0, 1, 0, 0), (.getfield 10, 3, 0, 0), zE, zE, (.getfield 95, 3, 1, 1), zE, zE, (.iload_n 1, 1, 0, 0), (.iaload, 1, 0, 0), (.istore 4, 2, 0, 0), zE, (.aload_n 0, 1, 0, 0), (.getfield 10, 3, 0, 0), zE, zE, (.getfield 98, 3, 1, 2), zE, zE, (.iload_n 1, 1, 0, 0), (.iaload, 1, 0, 0), (.istore 5, 2, 0, 0), zE, (.aload_n 0, 1, 0, 0), (.getfield 10, 3, 0, 0), zE, zE, (.getfield 101, 3, 1, 3), zE, zE, (.iload_n 1, 1, 0, 0), (.iaload, 1, 0, 0), (.istore 6, 2, 0, 0), zE, (.iconst 0, 1, 0, 0), (.istore 7, 2, 0, 0), zE, (.aload_n 0, 1, 0, 0), (.getfield 10, 3, 0, 0), zE, zE, (.iload_n 1, 1, 0, 0), (.invokevirtual 121, 3, 57, 0), zE, zE, (.istore 8, 2, 0, 0), zE, (.iconst 1, 1, 0, 0), (.istore 9, 2, 0, 0), zE, (.iload 9, 2, 0, 0), zE, (.iload 5, 2, 0, 0), zE, (.if_icmp .gt 52, 3, 0, 0), zE, zE, (.iload 6, 2, 0, 0), zE, (.iload 9, 2, 0, 0), zE, (.iadd, 1, 0, 0), (.bipush 99, 2, 0, 0), zE, (.if_icmp .gt 42, 3, 0, 0), zE, zE, (.iload_n 3, 1, 0, 0), (.iload 4, 2, 0, 0), zE, (.iload 5, 2, 0, 0), zE, (.iload 9, 2, 0, 0), zE, (.isub, 1, 0, 0), (.iload 6, 2, 0, 0), zE, (.iload 9, 2, 0, 0), zE, (.iadd, 1, 0, 0), (.invokestatic 223, 3, 3, 0), zE, zE, (.istore 10, 2, 0, 0), zE, (.iload 10, 2, 0, 0), zE, (.iload 8, 2, 0, 0), zE, (.if_icmp .ge 11, 3, 0, 0), zE, zE, (.iload 10, 2, 0, 0), zE, (.istore 8, 2, 0, 0), zE, (.iload 9, 2, 0, 0), zE, (.istore 7, 2, 0, 0), zE, (.iinc 9 1, 3, 0, 0), zE, zE, (.goto (-53), 3, 0, 0), zE, zE, (.iload 7, 2, 0, 0), zE, (.ireturn, 1, 0, 0)]
def E91 : List Ent := [(.aload_n 0, 1, 0, 0), (.getfield 43, 3, 0, 6), zE, zE, (.aload_n 0, 1, 0, 0), (.getfield 10, 3, 0, 0), zE, zE, (.getfield 104, 3, 1, 4), zE, zE, (.iload_n 1, 1, 0, 0), (.iaload, 1, 0, 0), (.aload_n 0, 1, 0, 0), (.getfield 10, 3, 0, 0), zE, zE, (.iload_n 1, 1, 0, 0), (.iload_n 2, 1, 0, 0), (.invokevirtual 244, 3, 26, 0), zE, zE, (.invokevirtual 247, 3, 43, 0), zE, zE, (.ireturn, 1, 0, 0)]
def E92 : List Ent := [(.aload_n 0, 1, 0, 0), (.getfield 10, 3, 0, 0), zE, zE, (.iload_n 1, 1, 0, 0), (.invokevirtual 311, 3, 23, 0), zE, zE, (.ifCond .eq 7, 3, 0, 0), zE, zE, (.iconst 0, 1, 0, 0), (.goto 5, 3, 0, 0), zE, zE, (.bipush (-6), 2, 0, 0), zE, (.ireturn, 1, 0, 0)]
def E93 : List Ent := [(.iload_n 1, 1, 0, 0), (.iconst 1, 1, 0, 0), (.bipush 99, 2, 0, 0), zE, (.invokestatic 51, 3, 58, 0), zE, zE, (.aload_n 0, 1, 0, 0), (.iload_n 1, 1, 0, 0), (.invokevirtual 155, 3, 92, 0), zE, zE, (.invokestatic 89, 3, 62, 0), zE, zE, (.istore_n 2, 1, 0, 0), (.iload_n 2, 1, 0, 0), (.ifCond .eq 9, 3, 0, 0), zE, zE, (.aload_n 0, 1, 0, 0), (.iload_n 2, 1, 0, 0), (.invokevirtual 59, 3, 59, 0), zE, zE, (.ireturn, 1, 0, 0), (.aload_n 0, 1, 0, 0), (.getfield 29, 3, 0, 4), zE, zE, (.aload_n 0, 1, 0, 0), (.getfield 10, 3, 0, 0), zE, zE, (.invokevirtual 142, 3, 8, 0), zE, zE, (.aload_n 0, 1, 0, 0), (.getfield 10, 3, 0, 0), zE, zE, (.iload_n 1, 1, 0, 0), (.invokevirtual 158, 3, 56, 0), zE, zE, (.aload_n 0, 1, 0, 0), (.getfield 10, 3, 0, 0), zE, zE, (.invokevirtual 162, 3, 52, 0), zE, zE, (.ireturn, 1, 0, 0)]
def E94 : List Ent := [(.aload_n 0, 1, 0, 0), (.getfield 16, 3, 0, 1), zE, zE, (.aload_n 0, 1, 0, 0), (.getfield 10, 3, 0, 0), zE, zE, (.invokevirtual 70, 3, 7, 0), zE, zE, (.iconst 0, 1, 0, 0), (.istore_n 1, 1, 0, 0), (.iload_n 1, 1, 0, 0), (.bipush 99, 2, 0, 0), zE, (.if_icmp .gt 28, 3, 0, 0), zE, zE, (.aload_n 0, 1, 0, 0), (.getfield 16, 3, 0, 1), zE, zE, (.invokevirtual 162, 3, 52, 0), zE, zE, (.ifCond .ne 5, 3, 0, 0), zE, zE, (.iload_n 1, 1, 0, 0), (.ireturn, 1, 0, 0), (.aload_n 0, 1, 0, 0), (.getfield 16, 3, 0, 1), zE, zE, (.invokevirtual 189, 3, 27, 0), zE, zE, (.iinc 1 1, 3, 0, 0), zE, zE, (.goto (-28), 3, 0, 0), zE, zE, (.bipush (-9), 2, 0, 0), zE, (.ireturn, 1, 0, 0)]
def E95 : List Ent := [(.iconst 0, 1, 0, 0), (.istore_n 2, 1, 0, 0), (.iconst 0, 1, 0, 0), (.istore_n 3, 1, 0, 0), (.iload_n 3, 1, 0, 0), (.bipush 99, 2, 0, 0), zE, (.if_icmp .gt 21, 3, 0, 0), zE, zE, (.aload_n 0, 1, 0, 0), (.iload_n 1, 1, 0, 0), (.iload_n 3, 1, 0, 0), (.invokevirtual 251, 3, 91, 0), zE, zE, (.ifCond .eq 6, 3, 0, 0), zE, zE, (.iinc 2 1, 3, 0, 0), zE, zE, (.iinc 3 1, 3, 0, 0), zE, zE, (.goto (-21), 3, 0, 0), zE, zE, (.iload_n 2, 1, 0, 0), (.ireturn, 1, 0, 0)]
def E96 : List Ent := [(.aload_n 0, 1, 0, 0), (.getfield 19, 3, 0, 2), zE, zE, (.aload_n 0, 1, 0, 0), (.getfield 10, 3, 0, 0), zE, zE, (.invokevirtual 70, 3, 7, 0), zE, zE, (.aload_n 0, 1, 0, 0), (.iconst 1, 1, 0, 0), (.putfield 22, 3, 0, 3), zE, zE, (.aload_n 0, 1, 0, 0), (.getfield 10, 3, 0, 0), zE, zE, (.getfield 304, 3, 1, 10), zE, zE, (.ireturn, 1, 0, 0)]
def E97 : List Ent := [(.aload_n 0, 1, 0, 0), (.invokespecial 1, 3, 0, 1), zE, zE, (.aload_n 0, 1, 0, 0), (.new 7, 3, 1, 0), zE, zE, (.dup, 1, 0, 0), (.invokespecial 9, 3, 5, 0), zE, zE, (.putfield 10, 3, 0, 0), zE, zE, (.aload_n 0, 1, 0, 0), (.new 7, 3, 1, 0), zE, zE, (.dup, 1, 0, 0), (.invokespecial 9, 3, 5, 0), zE, zE, (.putfield 16, 3, 0, 1), zE, zE, (.aload_n 0, 1, 0, 0), (.new 7, 3, 1, 0), zE, zE, (.dup, 1, 0, 0), (.invokespecial 9, 3, 5, 0), zE, zE, (.putfield 19, 3, 0, 2), zE, zE, (.aload_n 0, 1, 0, 0), (.iconst 0, 1, 0, 0), (.putfield 22, 3, 0, 3), zE, zE, (.aload_n 0, 1, 0, 0), (.new 26, 3, 2, 0), zE, zE, (.dup, 1, 0, 0), (.invokespecial 28, 3, 6, 0), zE, zE, (.putfield 29, 3, 0, 4), zE, zE, (.aload_n 0, 1, 0, 0), (.new 33, 3, 3, 0), zE, zE, (.dup, 1, 0, 0), (.invokespecial 35, 3, 36, 0), zE, zE, (.putfield 36, 3, 0, 5), zE, zE, (.aload_n 0, 1, 0, 0), (.new 40, 3, 4, 0), zE, zE, (.dup, 1, 0, 0), (.invokespecial 42, 3, 44, 0), zE, zE, (.putfield 43, 3, 0, 6), zE, zE, (.aload_n 0, 1, 0, 0), (.bipush 7, 2, 0, 0), zE, (.newarray .int, 2, 0, 0), zE, (.putfield 47, 3, 0, 7), zE, zE, (.return_, 1, 0, 0)]
def E98 : List Ent := [(.aload_n 0, 1, 0, 0), (.getfield 10, 3, 0, 0), zE, zE, (.iload_n 1, 1, 0, 0), (.invokevirtual 121, 3, 57, 0), zE, zE, (.aload_n 0, 1, 0, 0), (.getfield 10, 3, 0, 0), zE, zE, (.iload_n 2, 1, 0, 0), (.invokevirtual 121, 3, 57, 0), zE, zE, (.isub, 1, 0, 0), (.istore 4, 2, 0, 0), zE, (.iload_n 3, 1, 0, 0), (.ifCond .ne 16, 3, 0, 0), zE, zE, (.iload 4, 2, 0, 0), zE, (.ifCond .le 7, 3, 0, 0), zE, zE, (.iconst 1, 1, 0, 0), (.goto 17, 3, 0, 0), zE, zE, (.iconst 0, 1, 0, 0), (.goto 13, 3, 0, 0), zE, zE, (.iload 4, 2, 0, 0), zE, (.ifCond .ge 7, 3, 0, 0), zE, zE, (.iconst 1, 1, 0, 0), (.goto 4, 3, 0, 0), zE, zE, (.iconst 0, 1, 0, 0), (.ireturn, 1, 0, 0)]
def E99 : List Ent := [(.aload_n 0, 1, 0, 0), (.getfield 43, 3, 0, 6), zE, zE, (.aload_n 0, 1, 0, 0), (.getfield 10, 3, 0, 0), zE, zE, (.getfield 104, 3, 1, 4), zE, zE, (.aload_n 0, 1, 0, 0), (.getfield 10, 3, 0, 0), zE, zE, (.getfield 136, 3, 1, 9), zE, zE, (.invokevirtual 292, 3, 42, 0), zE, zE, (.istore_n 1, 1, 0, 0), (.aload_n 0, 1, 0, 0), (.getfield 43, 3, 0, 6), zE, zE, (.invokevirtual 296, 3, 40, 4), zE, zE, (.iload_n 1, 1, 0, 0), (.ireturn, 1, 0, 0)]
def E100 : List Ent := [(.iconst 0, 1, 0, 0), (.istore_n 2, 1, 0, 0), (.iconst 0, 1, 0, 0), (.istore_n 3, 1, 0, 0), (.iload_n 3, 1, 0, 0), (.iconst 5, 1, 0, 0), (.if_icmp .gt 73, 3, 0, 0), zE, zE, (.iload_n 3, 1, 0, 0), (.aload_n 0, 1, 0, 0), (.getfield 10, 3, 0, 0), zE, zE, (.getfield 95, 3, 1, 1), zE, zE, (.iload_n 1, 1, 0, 0), (.iaload, 1, 0, 0), (.aload_n 0, 1, 0, 0), (.getfield 10, 3, 0, 0), zE, zE, (.getfield 98, 3, 1, 2), zE, zE, (.iload_n 1, 1, 0, 0), (.iaload, 1, 0, 0), (.aload_n 0, 1, 0, 0), (.getfield 10, 3, 0, 0), zE, zE, (.getfield 101, 3, 1, 3), zE, zE, (.iload_n 1, 1, 0, 0), (.iaload, 1, 0, 0), (.invokestatic 223, 3, 3, 0), zE, zE, (.istore 4, 2, 0, 0), zE, (.aload_n 0, 1, 0, 0), (.getfield 43, 3, 0, 6), zE, zE, (.aload_n 0, 1, 0, 0), (.getfield 10, 3, 0, 0), zE, zE, (.getfield 104, 3, 1, 4), zE, zE, (.iload_n 1, 1, 0, 0), (.iaload, 1, 0, 0), (.iload_n 3, 1, 0, 0), (.iload 4, 2, 0, 0), zE, (.invokestatic 254, 3, 1, 0), zE, zE, (.invokevirtual 247, 3, 43, 0), zE, zE, (.ifCond .eq 9, 3, 0, 0), zE, zE, (.iload_n 2, 1, 0, 0), (.iconst 1, 1, 0, 0), (.iload_n 3, 1, 0, 0), (.ishl, 1, 0, 0), (.ior, 1, 0, 0), (.istore_n 2, 1, 0, 0), (.iinc 3 1, 3, 0, 0), zE, zE, (.goto (-72), 3, 0, 0), zE, zE, (.iload_n 2, 1, 0, 0), (.ireturn, 1, 0, 0)]
def E101 : List Ent := [(.aload_n 0, 1, 0, 0), (.iload_n 1, 1, 0, 0), (.invokevirtual 82, 3, 66, 0), zE, zE, (.istore_n 2, 1, 0, 0), (.iload_n 2, 1, 0, 0), (.ifCond .eq 11, 3, 0, 0), zE, zE, (.aload_n 0, 1, 0, 0), (.iload_n 2, 1, 0, 0), (.invokevirtual 59, 3, 59, 0), zE, zE, (.goto 11, 3, 0, 0), zE, zE, (.aload_n 0, 1, 0, 0), (.getfield 10, 3, 0, 0), zE, zE, (.iload_n 1, 1, 0, 0), (.invokevirtual 177, 3, 54, 0), zE, zE, (.ireturn, 1, 0, 0)]
def E102 : List Ent := [(.iconst 0, 1, 0, 0), (.istore_n 2, 1, 0, 0), (.iload_n 2, 1, 0, 0), (.bipush 99, 2, 0, 0), zE, (.if_icmp .gt 20, 3, 0, 0), zE, zE, (.aload_n 0, 1, 0, 0), (.iload_n 1, 1, 0, 0), (.iload_n 2, 1, 0, 0), (.invokevirtual 251, 3, 91, 0), zE, zE, (.ifCond .eq 5, 3, 0, 0), zE, zE, (.iload_n 2, 1, 0, 0), (.ireturn, 1, 0, 0), (.iinc 2 1, 3, 0, 0), zE, zE, (.goto (-20), 3, 0, 0), zE, zE, (.bipush (-9), 2, 0, 0), zE, (.ireturn, 1, 0, 0)]
def E103 : List Ent := [(.aload_n 0, 1, 0, 0), (.iload_n 1, 1, 0, 0), (.invokevirtual 82, 3, 66, 0), zE, zE, (.istore_n 2, 1, 0, 0), (.iload_n 2, 1, 0, 0), (.ifCond .ne 18, 3, 0, 0), zE, zE, (.aload_n 0, 1, 0, 0), (.getfield 10, 3, 0, 0), zE, zE, (.getfield 104, 3, 1, 4), zE, zE, (.iload_n 1, 1, 0, 0), (.iaload, 1, 0, 0), (.ifCond .ne 6, 3, 0, 0), zE, zE, (.bipush (-3), 2, 0, 0), zE, (.istore_n 2, 1, 0, 0), (.iload_n 2, 1, 0, 0), (.ifCond .eq 9, 3, 0, 0), zE, zE, (.aload_n 0, 1, 0, 0), (.iload_n 2, 1, 0, 0), (.invokevirtual 59, 3, 59, 0), zE, zE, (.ireturn, 1, 0, 0), (.aload_n 0, 1, 0, 0), (.getfield 29, 3, 0, 4), zE, zE, (.aload_n 0, 1, 0, 0), (.getfield 10, 3, 0, 0), zE, zE, (.invokevirtual 142, 3, 8, 0), zE, zE, (.aload_n 0, 1, 0, 0), (.getfield 10, 3, 0, 0), zE, zE, (.getfield 107, 3, 1, 5), zE, zE, (.iload_n 1, 1, 0, 0), (.aload_n 0, 1, 0, 0), (.getfield 10, 3, 0, 0), zE, zE, (.getfield 107, 3, 1, 5), zE, zE, (.iload_n 1, 1, 0, 0), (.baload, 1, 0, 0), (.ifCond .ne 7, 3, 0, 0), zE, zE, (.iconst 1, 1, 0, 0), (.goto 4, 3, 0, 0), zE, zE, (.iconst 0, 1, 0, 0), (.bastore, 1, 0, 0), (.aload_n 0, 1, 0, 0), (.getfield 10, 3, 0, 0), zE, zE, (.getfield 107, 3, 1, 5), zE, zE, (.iload_n 1, 1, 0, 0), (.baload, 1, 0, 0), (.invokestatic 111, 3, 68, 0), zE, zE, (.ireturn, 1, 0, 0)]
def E104 : List Ent := [(.bipush (-9), 2, 0, 0), zE, (.istore_n 1, 1, 0, 0), (.iconst (-1), 1, 0, 0), (.istore_n 2, 1, 0, 0), (.iconst 0, 1, 0, 0), (.istore_n 3, 1, 0, 0), (.iload_n 3, 1, 0, 0), (.aload_n 0, 1, 0, 0), (.getfield 10, 3, 0, 0), zE, zE, (.getfield 136, 3, 1, 9), zE, zE, (.if_icmp .ge 30, 3, 0, 0), zE, zE, (.aload_n 0, 1, 0, 0), (.getfield 10, 3, 0, 0), zE, zE, (.iload_n 3, 1, 0, 0), (.invokevirtual 177, 3, 54, 0), zE, zE, (.istore 4, 2, 0, 0), zE, (.iload 4, 2, 0, 0), zE, (.iload_n 2, 1, 0, 0), (.if_icmp .le 8, 3, 0, 0), zE, zE, (.iload 4, 2, 0, 0), zE, (.istore_n 2, 1, 0, 0), (.iload_n 3, 1, 0, 0), (.istore_n 1, 1, 0, 0), (.iinc 3 1, 3, 0, 0), zE, zE, (.goto (-35), 3, 0, 0), zE, zE, (.iload_n 1, 1, 0, 0), (.ireturn, 1, 0, 0)]
def E105 : List Ent := [(.bipush (-9), 2, 0, 0), zE, (.istore_n 1, 1, 0, 0), (.bipush 100, 2, 0, 0), zE, (.istore_n 2, 1, 0, 0), (.iconst 0, 1, 0, 0), (.istore_n 3, 1, 0, 0), (.iload_n 3, 1, 0, 0), (.aload_n 0, 1, 0, 0), (.getfield 10, 3, 0, 0), zE, zE, (.getfield 136, 3, 1, 9), zE, zE, (.if_icmp .ge 44, 3, 0, 0), zE, zE, (.aload_n 0, 1, 0, 0), (.getfield 10, 3, 0, 0), zE, zE, (.getfield 107, 3, 1, 5), zE, zE, (.iload_n 3, 1, 0, 0), (.baload, 1, 0, 0), (.ifCond .eq 26, 3, 0, 0), zE, zE, (.aload_n 0, 1, 0, 0), (.getfield 10, 3, 0, 0), zE, zE, (.iload_n 3, 1, 0, 0), (.invokevirtual 177, 3, 54, 0), zE, zE, (.iload_n 2, 1, 0, 0), (.if_icmp .ge 14, 3, 0, 0), zE, zE, (.aload_n 0, 1, 0, 0), (.getfield 10, 3, 0, 0), zE, zE, (.iload_n 3, 1, 0, 0), (.invokevirtual 177, 3, 54, 0), zE, zE, (.istore_n 2, 1, 0, 0), (.iload_n 3, 1, 0, 0), (.istore_n 1, 1, 0, 0), (.iinc 3 1, 3, 0, 0), zE, zE, (.goto (-49), 3, 0, 0), zE, zE, (.iload_n 1, 1, 0, 0), (.ireturn, 1, 0, 0)]
def E106 : List Ent := [(.iload_n 1, 1, 0, 0), (.iconst 3, 1, 0, 0), (.invokestatic 85, 3, 61, 0), zE, zE, (.istore_n 2, 1, 0, 0), (.iload_n 2, 1, 0, 0), (.ifCond .eq 9, 3, 0, 0), zE, zE, (.aload_n 0, 1, 0, 0), (.iload_n 2, 1, 0, 0), (.invokevirtual 59, 3, 59, 0), zE, zE, (.ireturn, 1, 0, 0), (.aload_n 0, 1, 0, 0), (.invokevirtual 180, 3, 104, 0), zE, zE, (.istore_n 3, 1, 0, 0), (.iload_n 1, 1, 0, 0), (.tableswitch 53 0 2 #[26, 28, 48], 26, 0, 0), zE, zE, zE, zE, zE, zE, zE, zE, zE, zE, zE, zE, zE, zE, zE, zE, zE, zE, zE, zE, zE, zE, zE, zE, zE, (.iload_n 3, 1, 0, 0), (.ireturn, 1, 0, 0), (.iload_n 3, 1, 0, 0), (.bipush (-9), 2, 0, 0), zE, (.if_icmp .ne 8, 3, 0, 0), zE, zE, (.bipush (-9), 2, 0, 0), zE, (.goto 11, 3, 0, 0), zE, zE, (.aload_n 0, 1, 0, 0), (.getfield 10, 3, 0, 0), zE, zE, (.iload_n 3, 1, 0, 0), (.invokevirtual 177, 3, 54, 0), zE, zE, (.ireturn, 1, 0, 0), (.aload_n 0, 1, 0, 0), (.invokevirtual 183, 3, 94, 0), zE, zE, (.ireturn, 1, 0, 0), (.aload_n 0, 1, 0, 0), (.invokevirtual 186, 3, 105, 0), zE, zE, (.ireturn, 1, 0, 0)]
def E107 : List Ent := [(.aload_n 0, 1, 0, 0), (.getfield 16, 3, 0, 1), zE, zE, (.aload_n 0, 1, 0, 0), (.getfield 10, 3, 0, 0), zE, zE, (.invokevirtual 70, 3, 7, 0), zE, zE, (.aload_n 0, 1, 0, 0), (.getfield 16, 3, 0, 1), zE, zE, (.getfield 118, 3, 1, 7), zE, zE, (.iload_n 1, 1, 0, 0), (.iload_n 2, 1, 0, 0), (.iastore, 1, 0, 0), (.aload_n 0, 1, 0, 0), (.getfield 16, 3, 0, 1), zE, zE, (.iload_n 3, 1, 0, 0), (.invokevirtual 168, 3, 30, 0), zE, zE, (.return_, 1, 0, 0)]
def E108 : List Ent := [(.aload_n 0, 1, 0, 0), (.iload_n 1, 1, 0, 0), (.iload_n 2, 1, 0, 0), (.iload_n 3, 1, 0, 0), (.invokevirtual 213, 3, 107, 0), zE, zE, (.aload_n 0, 1, 0, 0), (.getfield 16, 3, 0, 1), zE, zE, (.getfield 98, 3, 1, 2), zE, zE, (.iload_n 1, 1, 0, 0), (.iaload, 1, 0, 0), (.aload_n 0, 1, 0, 0), (.getfield 10, 3, 0, 0), zE, zE, (.getfield 98, 3, 1, 2), zE, zE, (.iload_n 1, 1, 0, 0), (.iaload, 1, 0, 0), (.if_icmp .lt 7, 3, 0, 0), zE, zE, (.iconst 1, 1, 0, 0), (.goto 4, 3, 0, 0), zE, zE, (.iconst 0, 1, 0, 0), (.ireturn, 1, 0, 0)]
def E109 : List Ent := [(.iload_n 1, 1, 0, 0), (.iconst 1, 1, 0, 0), (.bipush 20, 2, 0, 0), zE, (.invokestatic 51, 3, 58, 0), zE, zE, (.iload_n 3, 1, 0, 0), (.iconst 1, 1, 0, 0), (.invokestatic 85, 3, 61, 0), zE, zE, (.invokestatic 89, 3, 62, 0), zE, zE, (.istore 4, 2, 0, 0), zE, (.iload 4, 2, 0, 0), zE, (.ifCond .eq 10, 3, 0, 0), zE, zE, (.aload_n 0, 1, 0, 0), (.iload 4, 2, 0, 0), zE, (.invokevirtual 59, 3, 59, 0), zE, zE, (.ireturn, 1, 0, 0), (.iload_n 2, 1, 0, 0), (.istore 5, 2, 0, 0), zE, (.iconst 0, 1, 0, 0), (.istore 6, 2, 0, 0), zE, (.iconst 0, 1, 0, 0), (.istore 7, 2, 0, 0), zE, (.iconst 0, 1, 0, 0), (.istore 8, 2, 0, 0), zE, (.iload 8, 2, 0, 0), zE, (.iload_n 1, 1, 0, 0), (.if_icmp .ge 117, 3, 0, 0), zE, zE, (.aload_n 0, 1, 0, 0), (.getfield 16, 3, 0, 1), zE, zE, (.aload_n 0, 1, 0, 0), (.getfield 10, 3, 0, 0), zE, zE, (.invokevirtual 70, 3, 7, 0), zE, zE, (.iconst 0, 1, 0, 0), (.istore 9, 2, 0, 0), zE, (.iload 9, 2, 0, 0), zE, (.aload_n 0, 1, 0, 0), (.getfield 16, 3, 0, 1), zE, zE, (.getfield 136, 3, 1, 9), zE, zE, (.if_icmp .ge 44, 3, 0, 0), zE, zE, (.iload 5, 2, 0, 0), zE, (.ldc_w 298, 3, 0, 1103515245), zE, zE, (.imul, 1, 0, 0), (.sipush 12345, 3, 0, 0), zE, zE, (.iadd, 1, 0, 0), (.istore 5, 2, 0, 0), zE, (.aload_n 0, 1, 0, 0), (.getfield 16, 3, 0, 1), zE, zE, (.getfield 98, 3, 1, 2), zE, zE, (.iload 9, 2, 0, 0), zE, (.iload 5, 2, 0, 0), zE, (.ldc_w 299, 3, 0, 2147483647), zE, zE, (.iand, 1, 0, 0), (.ldc_w 300, 3, 0, 65536), zE, zE, (.idiv, 1, 0, 0), (.bipush 60, 2, 0, 0), zE, (.irem, 1, 0, 0), (.iastore, 1, 0, 0), (.iinc 9 1, 3, 0, 0), zE, zE, (.goto (-50), 3, 0, 0), zE, zE, (.aload_n 0, 1, 0, 0), (.getfield 16, 3, 0, 1), zE, zE, (.bipush 8, 2, 0, 0), zE, (.invokevirtual 168, 3, 30, 0), zE, zE, (.iload 6, 2, 0, 0), zE, (.aload_n 0, 1, 0, 0), (.getfield 16, 3, 0, 1), zE, zE, (.invokevirtual 165, 3, 48, 0), zE, zE, (.aload_n 0, 1, 0, 0), (.getfield 10, 3, 0, 0), zE, zE, (.invokevirtual 165, 3, 48, 0), zE, zE, (.isub, 1, 0, 0), (.iadd, 1, 0, 0), (.istore 6, 2, 0, 0), zE, (.iload 7, 2, 0, 0), zE, (.aload_n 0, 1, 0, 0), (.getfield 16, 3, 0, 1), zE, zE, (.invokevirtual 301, 3, 50, 0), zE, zE, (.iadd, 1, 0, 0), (.istore 7, 2, 0, 0), zE, (.iinc 8 1, 3, 0, 0), zE, zE, (.goto (-117), 3, 0, 0), zE, zE, (.iload_n 3, 1, 0, 0), (.ifCond .ne 8, 3, 0, 0), zE, zE, (.iload 6, 2, 0, 0), zE, (.goto 5, 3, 0, 0), zE, zE, (.iload 7, 2, 0, 0), zE, (.ireturn, 1, 0, 0)]
def E110 : List Ent := [(.iload_n 1, 1, 0, 0), (.iconst 1, 1, 0, 0), (.invokestatic 85, 3, 61, 0), zE, zE, (.istore_n 2, 1, 0, 0), (.iload_n 2, 1, 0, 0), (.ifCond .eq 14, 3, 0, 0), zE, zE, (.ldc2_w 267, 3, 0, 4000000000000000000), zE, zE, (.aload_n 0, 1, 0, 0), (.iload_n 2, 1, 0, 0), (.invokevirtual 59, 3, 59, 0), zE, zE, (.i2l, 1, 0, 0), (.lsub, 1, 0, 0), (.lreturn, 1, 0, 0), (.lconst 0, 1, 0, 0), (.lstore_n 3, 1, 0, 0), (.iconst 0, 1, 0, 0), (.istore 5, 2, 0, 0), zE, (.iload 5, 2, 0, 0), zE, (.aload_n 0, 1, 0, 0), (.getfield 10, 3, 0, 0), zE, zE, (.getfield 136, 3, 1, 9), zE, zE, (.if_icmp .ge 22, 3, 0, 0), zE, zE, (.lload_n 3, 1, 0, 0), (.aload_n 0, 1, 0, 0), (.getfield 10, 3, 0, 0), zE, zE, (.iload 5, 2, 0, 0), zE, (.invokevirtual 121, 3, 57, 0), zE, zE, (.i2l, 1, 0, 0), (.ladd, 1, 0, 0), (.lstore_n 3, 1, 0, 0), (.iinc 5 1, 3, 0, 0), zE, zE, (.goto (-28), 3, 0, 0), zE, zE, (.lload_n 3, 1, 0, 0), (.iconst 1, 1, 0, 0), (.aload_n 0, 1, 0, 0), (.getfield 10, 3, 0, 0), zE, zE, (.getfield 136, 3, 1, 9), zE, zE, (.invokestatic 220, 3, 0, 2), zE, zE, (.i2l, 1, 0, 0), (.iload_n 1, 1, 0, 0), (.invokestatic 277, 3, 79, 0), zE, zE, (.lreturn, 1, 0, 0)]
def E111 : List Ent := [(.aload_n 0, 1, 0, 0), (.iload_n 1, 1, 0, 0), (.invokevirtual 82, 3, 66, 0), zE, zE, (.iload_n 2, 1, 0, 0), (.iconst 1, 1, 0, 0), (.bipush 12, 2, 0, 0), zE, (.invokestatic 51, 3, 58, 0), zE, zE, (.iload_n 3, 1, 0, 0), (.iconst 2, 1, 0, 0), (.invokestatic 85, 3, 61, 0), zE, zE, (.invokestatic 140, 3, 67, 0), zE, zE, (.istore 4, 2, 0, 0), zE, (.iload 4, 2, 0, 0), zE, (.ifCond .eq 10, 3, 0, 0), zE, zE, (.aload_n 0, 1, 0, 0), (.iload 4, 2, 0, 0), zE, (.invokevirtual 59, 3, 59, 0), zE, zE, (.ireturn, 1, 0, 0), (.aload_n 0, 1, 0, 0), (.getfield 16, 3, 0, 1), zE, zE, (.aload_n 0, 1, 0, 0), (.getfield 10, 3, 0, 0), zE, zE, (.invokevirtual 70, 3, 7, 0), zE, zE, (.aload_n 0, 1, 0, 0), (.getfield 16, 3, 0, 1), zE, zE, (.iload_n 2, 1, 0, 0), (.invokevirtual 168, 3, 30, 0), zE, zE, (.iload_n 3, 1, 0, 0), (.lookupswitch 46 #[(0, 26), (1, 36)], 26, 0, 0), zE, zE, zE, zE, zE, zE, zE, zE, zE, zE, zE, zE, zE, zE, zE, zE, zE, zE, zE, zE, zE, zE, zE, zE, zE, (.aload_n 0, 1, 0, 0), (.getfield 16, 3, 0, 1), zE, zE, (.getfield 98, 3, 1, 2), zE, zE, (.iload_n 1, 1, 0, 0), (.iaload, 1, 0, 0), (.ireturn, 1, 0, 0), (.aload_n 0, 1, 0, 0), (.getfield 16, 3, 0, 1), zE, zE, (.getfield 104, 3, 1, 4), zE, zE, (.iload_n 1, 1, 0, 0), (.iaload, 1, 0, 0), (.ireturn, 1, 0, 0), (.aload_n 0, 1, 0, 0), (.getfield 16, 3, 0, 1), zE, zE, (.getfield 115, 3, 1, 6), zE, zE, (.iload_n 1, 1, 0, 0), (.iaload, 1, 0, 0), (.aload_n 0, 1, 0, 0), (.getfield 10, 3, 0, 0), zE, zE, (.getfield 115, 3, 1, 6), zE, zE, (.iload_n 1, 1, 0, 0), (.iaload, 1, 0, 0), (.isub, 1, 0, 0), (.ireturn, 1, 0, 0)]
def E112 : List Ent := [(.iload_n 1, 1, 0, 0), (.iconst 1, 1, 0, 0), (.bipush 12, 2, 0, 0), zE, (.invokestatic 51, 3, 58, 0), zE, zE, (.iload_n 2, 1, 0, 0), (.iconst 1, 1, 0, 0), (.invokestatic 85, 3, 61, 0), zE, zE, (.invokestatic 89, 3, 62, 0), zE, zE, (.istore_n 3, 1, 0, 0), (.iload_n 3, 1, 0, 0), (.ifCond .eq 9, 3, 0, 0), zE, zE, (.aload_n 0, 1, 0, 0), (.iload_n 3, 1, 0, 0), (.invokevirtual 59, 3, 59, 0), zE, zE, (.ireturn, 1, 0, 0), (.aload_n 0, 1, 0, 0), (.getfield 16, 3, 0, 1), zE, zE, (.aload_n 0, 1, 0, 0), (.getfield 10, 3, 0, 0), zE, zE, (.invokevirtual 70, 3, 7, 0), zE, zE, (.aload_n 0, 1, 0, 0), (.getfield 16, 3, 0, 1), zE, zE, (.iload_n 1, 1, 0, 0), (.invokevirtual 168, 3, 30, 0), zE, zE, (.iload_n 2, 1, 0, 0), (.ifCond .ne 21, 3, 0, 0), zE, zE, (.aload_n 0, 1, 0, 0), (.getfield 16, 3, 0, 1), zE, zE, (.invokevirtual 165, 3, 48, 0), zE, zE, (.aload_n 0, 1, 0, 0), (.getfield 10, 3, 0, 0), zE, zE, (.invokevirtual 165, 3, 48, 0), zE, zE, (.isub, 1, 0, 0), (.goto 18, 3, 0, 0), zE, zE, (.aload_n 0, 1, 0, 0), (.getfield 10, 3, 0, 0), zE, zE, (.invokevirtual 207, 3, 47, 0), zE, zE, (.aload_n 0, 1, 0, 0), (.getfield 16, 3, 0, 1), zE, zE, (.invokevirtual 207, 3, 47, 0), zE, zE, (.isub, 1, 0, 0), (.ireturn, 1, 0, 0)]
def E113 : List Ent := [(.iload_n 1, 1, 0, 0), (.iconst 1, 1, 0, 0), (.bipush 12, 2, 0, 0), zE, (.invokestatic 51, 3, 58, 0), zE, zE, (.aload_n 0, 1, 0, 0), (.iload_n 1, 1, 0, 0), (.invokevirtual 155, 3, 92, 0), zE, zE, (.invokestatic 89, 3, 62, 0), zE, zE, (.istore_n 2, 1, 0, 0), (.iload_n 2, 1, 0, 0), (.ifCond .eq 9, 3, 0, 0), zE, zE, (.aload_n 0, 1, 0, 0), (.iload_n 2, 1, 0, 0), (.invokevirtual 59, 3, 59, 0), zE, zE, (.ireturn, 1, 0, 0), (.aload_n 0, 1, 0, 0), (.getfield 29, 3, 0, 4), zE, zE, (.aload_n 0, 1, 0, 0), (.getfield 10, 3, 0, 0), zE, zE, (.invokevirtual 142, 3, 8, 0), zE, zE, (.aload_n 0, 1, 0, 0), (.getfield 10, 3, 0, 0), zE, zE, (.invokevirtual 165, 3, 48, 0), zE, zE, (.istore_n 3, 1, 0, 0), (.aload_n 0, 1, 0, 0), (.getfield 10, 3, 0, 0), zE, zE, (.iload_n 1, 1, 0, 0), (.invokevirtual 168, 3, 30, 0), zE, zE, (.aload_n 0, 1, 0, 0), (.getfield 10, 3, 0, 0), zE, zE, (.invokevirtual 165, 3, 48, 0), zE, zE, (.iload_n 3, 1, 0, 0), (.isub, 1, 0, 0), (.ireturn, 1, 0, 0)]
def E114 : List Ent := [(.aload_n 0, 1, 0, 0), (.iload_n 1, 1, 0, 0), (.iload_n 2, 1, 0, 0), (.iload_n 3, 1, 0, 0), (.invokevirtual 213, 3, 107, 0), zE, zE, (.aload_n 0, 1, 0, 0), (.getfield 16, 3, 0, 1), zE, zE, (.getfield 115, 3, 1, 6), zE, zE, (.iload_n 1, 1, 0, 0), (.iaload, 1, 0, 0), (.aload_n 0, 1, 0, 0), (.getfield 10, 3, 0, 0), zE, zE, (.getfield 115, 3, 1, 6), zE, zE, (.iload_n 1, 1, 0, 0), (.iaload, 1, 0, 0), (.isub, 1, 0, 0), (.ireturn, 1, 0, 0)]
def E115 : List Ent := [(.iload_n 1, 1, 0, 0), (.iconst 5, 1, 0, 0), (.invokestatic 85, 3, 61, 0), zE, zE, (.istore 4, 2, 0, 0), zE, (.iload 4, 2, 0, 0), zE, (.ifCond .ne 15, 3, 0, 0), zE, zE, (.iload_n 2, 1, 0, 0), (.ifCond .lt 7, 3, 0, 0), zE, zE, (.iload_n 3, 1, 0, 0), (.ifCond .ge 7, 3, 0, 0), zE, zE, (.bipush (-4), 2, 0, 0), zE, (.istore 4, 2, 0, 0), zE, (.iload 4, 2, 0, 0), zE, (.ifCond .ne 29, 3, 0, 0), zE, zE, (.iload_n 2, 1, 0, 0), (.bipush 9, 2, 0, 0), zE, (.if_icmp .gt 19, 3, 0, 0), zE, zE, (.iload_n 3, 1, 0, 0), (.bipush 99, 2, 0, 0), zE, (.if_icmp .gt 13, 3, 0, 0), zE, zE, (.aload_n 0, 1, 0, 0), (.getfield 10, 3, 0, 0), zE, zE, (.invokevirtual 131, 3, 13, 0), zE, zE, (.ifCond .eq 7, 3, 0, 0), zE, zE, (.bipush (-6), 2, 0, 0), zE, (.istore 4, 2, 0, 0), zE, (.iload 4, 2, 0, 0), zE, (.ifCond .eq 10, 3, 0, 0), zE, zE, (.aload_n 0, 1, 0, 0), (.iload 4, 2, 0, 0), zE, (.invokevirtual 59, 3, 59, 0), zE, zE, (.ireturn, 1, 0, 0), (.aload_n 0, 1, 0, 0), (.getfield 29, 3, 0, 4), zE, zE, (.invokevirtual 81, 3, 4, 0), zE, zE, (.aload_n 0, 1, 0, 0), (.getfield 10, 3, 0, 0), zE, zE, (.iload_n 1, 1, 0, 0), (.iload_n 2, 1, 0, 0), (.iload_n 3, 1, 0, 0), (.invokevirtual 132, 3, 14, 0), zE, zE, (.aload_n 0, 1, 0, 0), (.getfield 10, 3, 0, 0), zE, zE, (.getfield 136, 3, 1, 9), zE, zE, (.iconst 1, 1, 0, 0), (.isub, 1, 0, 0), (.ireturn, 1, 0, 0)]
def E116 : List Ent := [(.aload_n 0, 1, 0, 0), (.iload_n 1, 1, 0, 0), (.invokevirtual 82, 3, 66, 0), zE, zE, (.iload_n 2, 1, 0, 0), (.bipush 10, 2, 0, 0), zE, (.invokestatic 85, 3, 61, 0), zE, zE, (.invokestatic 89, 3, 62, 0), zE, zE, (.istore_n 3, 1, 0, 0), (.iload_n 3, 1, 0, 0), (.ifCond .eq 9, 3, 0, 0), zE, zE, (.aload_n 0, 1, 0, 0), (.iload_n 3, 1, 0, 0), (.invokevirtual 59, 3, 59, 0), zE, zE, (.ireturn, 1, 0, 0), (.iload_n 2, 1, 0, 0), (.tableswitch 173 0 9 #[54, 64, 74, 84, 94, 104, 117, 127, 155, 164], 54, 0, 0), zE, zE, zE, zE, zE, zE, zE, zE, zE, zE, zE, zE, zE, zE, zE, zE, zE, zE, zE, zE, zE, zE, zE, zE, zE, zE, zE, zE, zE, zE, zE, zE, zE, zE, zE, zE, zE, zE, zE, zE, zE, zE, zE, zE, zE, zE, zE, zE, zE, zE, zE, zE, zE, (.aload_n 0, 1, 0, 0), (.getfield 10, 3, 0, 0), zE, zE, (.getfield 92, 3, 1, 0), zE, zE, (.iload_n 1, 1, 0, 0), (.iaload, 1, 0, 0), (.ireturn, 1, 0, 0), (.aload_n 0, 1, 0, 0), (.getfield 10, 3, 0, 0), zE, zE, (.getfield 95, 3, 1, 1), zE, zE, (.iload_n 1, 1, 0, 0), (.iaload, 1, 0, 0), (.ireturn, 1, 0, 0), (.aload_n 0, 1, 0, 0), (.getfield 10, 3, 0, 0), zE, zE, (.getfield 98, 3, 1, 2), zE, zE, (.iload_n 1, 1, 0, 0), (.iaload, 1, 0, 0), (.ireturn, 1, 0, 0), (.aload_n 0, 1, 0, 0), (.getfield 10, 3, 0, 0), zE, zE, (.getfield 101, 3, 1, 3), zE, zE, (.iload_n 1, 1, 0, 0), (.iaload, 1, 0, 0), (.ireturn, 1, 0, 0), (.aload_n 0, 1, 0, 0), (.getfield 10, 3, 0, 0), zE, zE, (.getfield 104, 3, 1, 4), zE, zE, (.iload_n 1, 1, 0, 0), (.iaload, 1, 0, 0), (.ireturn, 1, 0, 0), (.aload_n 0, 1, 0, 0), (.getfield 10, 3, 0, 0), zE, zE, (.getfield 107, 3, 1, 5), zE, zE, (.iload_n 1, 1, 0, 0), (.baload, 1, 0, 0), (.invokestatic 111, 3, 68, 0), zE, zE, (.ireturn, 1, 0, 0), (.aload_n 0, 1, 0, 0), (.getfield 10, 3, 0, 0), zE, zE, (.getfield 115, 3, 1, 6), zE, zE, (.iload_n 1, 1, 0, 0), (.iaload, 1, 0, 0), (.ireturn, 1, 0, 0), (.aload_n 0, 1, 0, 0), (.getfield 10, 3, 0, 0), zE, zE, (.getfield 118, 3, 1, 7), zE, zE, (.iload_n 1, 1, 0, 0), (.iaload, 1, 0, 0), (.iconst (-1), 1, 0, 0), (.if_icmp .ne 8, 3, 0, 0), zE, zE, (.bipush (-9), 2, 0, 0), zE, (.goto 12, 3, 0, 0), zE, zE, (.aload_n 0, 1, 0, 0), (.getfield 10, 3, 0, 0), zE, zE, (.getfield 118, 3, 1, 7), zE, zE, (.iload_n 1, 1, 0, 0), (.iaload, 1, 0, 0), (.ireturn, 1, 0, 0), (.aload_n 0, 1, 0, 0), (.getfield 10, 3, 0, 0), zE, zE, (.iload_n 1, 1, 0, 0), (.invokevirtual 121, 3, 57, 0), zE, zE, (.ireturn, 1, 0, 0), (.aload_n 0, 1, 0, 0), (.getfield 10, 3, 0, 0), zE, zE, (.iload_n 1, 1, 0, 0), (.invokevirtual 124, 3, 49, 0), zE, zE, (.ireturn, 1, 0, 0), (.aload_n 0, 1, 0, 0), (.getfield 10, 3, 0, 0), zE, zE, (.iload_n 1, 1, 0, 0), (.invokevirtual 127, 3, 28, 0), zE, zE, (.invokestatic 111, 3, 68, 0), zE, zE, (.ireturn, 1, 0, 0)]
def E117 : List Ent := [(.iload_n 1, 1, 0, 0), (.iconst 1, 1, 0, 0), (.invokestatic 85, 3, 61, 0), zE, zE, (.istore_n 2, 1, 0, 0), (.iload_n 2, 1, 0, 0), (.ifCond .eq 9, 3, 0, 0), zE, zE, (.aload_n 0, 1, 0, 0), (.iload_n 2, 1, 0, 0), (.invokevirtual 59, 3, 59, 0), zE, zE, (.ireturn, 1, 0, 0), (.iconst 0, 1, 0, 0), (.istore_n 3, 1, 0, 0), (.iconst 0, 1, 0, 0), (.istore 4, 2, 0, 0), zE, (.iconst 0, 1, 0, 0), (.istore 5, 2, 0, 0), zE, (.iload 5, 2, 0, 0), zE, (.aload_n 0, 1, 0, 0), (.getfield 10, 3, 0, 0), zE, zE, (.getfield 136, 3, 1, 9), zE, zE, (.if_icmp .ge 37, 3, 0, 0), zE, zE, (.iload_n 3, 1, 0, 0), (.aload_n 0, 1, 0, 0), (.getfield 10, 3, 0, 0), zE, zE, (.iload 5, 2, 0, 0), zE, (.invokevirtual 177, 3, 54, 0), zE, zE, (.iadd, 1, 0, 0), (.istore_n 3, 1, 0, 0), (.iload 4, 2, 0, 0), zE, (.aload_n 0, 1, 0, 0), (.getfield 10, 3, 0, 0), zE, zE, (.iload 5, 2, 0, 0), zE, (.invokevirtual 177, 3, 54, 0), zE, zE, (.invokestatic 220, 3, 0, 2), zE, zE, (.istore 4, 2, 0, 0), zE, (.iinc 5 1, 3, 0, 0), zE, zE, (.goto (-43), 3, 0, 0), zE, zE, (.iload_n 1, 1, 0, 0), (.ifCond .ne 7, 3, 0, 0), zE, zE, (.iload_n 3, 1, 0, 0), (.goto 13, 3, 0, 0), zE, zE, (.iload_n 3, 1, 0, 0), (.iconst 2, 1, 0, 0), (.idiv, 1, 0, 0), (.iload_n 3, 1, 0, 0), (.iload 4, 2, 0, 0), zE, (.isub, 1, 0, 0), (.invokestatic 201, 3, 0, 1), zE, zE, (.ireturn, 1, 0, 0)]
def E118 : List Ent := [(.aload_n 0, 1, 0, 0), (.getfield 22, 3, 0, 3), zE, zE, (.ifCond .ne 10, 3, 0, 0), zE, zE, (.aload_n 0, 1, 0, 0), (.bipush (-3), 2, 0, 0), zE, (.invokevirtual 59, 3, 59, 0), zE, zE, (.ireturn, 1, 0, 0), (.aload_n 0, 1, 0, 0), (.getfield 29, 3, 0, 4), zE, zE, (.invokevirtual 81, 3, 4, 0), zE, zE, (.aload_n 0, 1, 0, 0), (.getfield 10, 3, 0, 0), zE, zE, (.aload_n 0, 1, 0, 0), (.getfield 19, 3, 0, 2), zE, zE, (.invokevirtual 70, 3, 7, 0), zE, zE, (.aload_n 0, 1, 0, 0), (.getfield 10, 3, 0, 0), zE, zE, (.getfield 304, 3, 1, 10), zE, zE, (.ireturn, 1, 0, 0)]
def E119 : List Ent := [(.iload_n 1, 1, 0, 0), (.iconst 1, 1, 0, 0), (.invokestatic 85, 3, 61, 0), zE, zE, (.istore_n 2, 1, 0, 0), (.iload_n 2, 1, 0, 0), (.ifCond .eq 9, 3, 0, 0), zE, zE, (.aload_n 0, 1, 0, 0), (.iload_n 2, 1, 0, 0), (.invokevirtual 59, 3, 59, 0), zE, zE, (.ireturn, 1, 0, 0), (.bipush (-9), 2, 0, 0), zE, (.istore_n 3, 1, 0, 0), (.iconst 0, 1, 0, 0), (.istore 4, 2, 0, 0), zE, (.iload 4, 2, 0, 0), zE, (.aload_n 0, 1, 0, 0), (.getfield 10, 3, 0, 0), zE, zE, (.getfield 136, 3, 1, 9), zE, zE, (.if_icmp .ge 29, 3, 0, 0), zE, zE, (.iload_n 3, 1, 0, 0), (.bipush (-9), 2, 0, 0), zE, (.if_icmp .eq 14, 3, 0, 0), zE, zE, (.aload_n 0, 1, 0, 0), (.iload 4, 2, 0, 0), zE, (.iload_n 3, 1, 0, 0), (.iload_n 1, 1, 0, 0), (.invokevirtual 281, 3, 98, 0), zE, zE, (.ifCond .eq 6, 3, 0, 0), zE, zE, (.iload 4, 2, 0, 0), zE, (.istore_n 3, 1, 0, 0), (.iinc 4 1, 3, 0, 0), zE, zE, (.goto (-35), 3, 0, 0), zE, zE, (.iload_n 3, 1, 0, 0), (.ireturn, 1, 0, 0)]
def E120 : List Ent := [(.aload_n 0, 1, 0, 0), (.iload_n 1, 1, 0, 0), (.invokevirtual 82, 3, 66, 0), zE, zE, (.istore_n 2, 1, 0, 0), (.iload_n 2, 1, 0, 0), (.ifCond .eq 9, 3, 0, 0), zE, zE, (.aload_n 0, 1, 0, 0), (.iload_n 2, 1, 0, 0), (.invokevirtual 59, 3, 59, 0), zE, zE, (.ireturn, 1, 0, 0), (.iconst 0, 1, 0, 0), (.istore_n 3, 1, 0, 0), (.iconst 0, 1, 0, 0), (.istore 4, 2, 0, 0), zE, (.iload_n 1, 1, 0, 0), (.istore 5, 2, 0, 0), zE, (.iconst 0, 1, 0, 0), (.istore 6, 2, 0, 0), zE, (.iload 6, 2, 0, 0), zE, (.bipush 6, 2, 0, 0), zE, (.if_icmp .ge 52, 3, 0, 0), zE, zE, (.aload_n 0, 1, 0, 0), (.getfield 10, 3, 0, 0), zE, zE, (.iload 5, 2, 0, 0), zE, (.invokevirtual 284, 3, 16, 0), zE, zE, (.ifCond .eq 40, 3, 0, 0), zE, zE, (.iload_n 3, 1, 0, 0), (.iload 5, 2, 0, 0), zE, (.ishr, 1, 0, 0), (.iconst 1, 1, 0, 0), (.iand, 1, 0, 0), (.ifCond .ne 31, 3, 0, 0), zE, zE, (.iload_n 3, 1, 0, 0), (.iconst 1, 1, 0, 0), (.iload 5, 2, 0, 0), zE, (.ishl, 1, 0, 0), (.ior, 1, 0, 0), (.istore_n 3, 1, 0, 0), (.iinc 4 1, 3, 0, 0), zE, zE, (.aload_n 0, 1, 0, 0), (.getfield 10, 3, 0, 0), zE, zE, (.getfield 118, 3, 1, 7), zE, zE, (.iload 5, 2, 0, 0), zE, (.iaload, 1, 0, 0), (.istore 5, 2, 0, 0), zE, (.iinc 6 1, 3, 0, 0), zE, zE, (.goto (-53), 3, 0, 0), zE, zE, (.iload 4, 2, 0, 0), zE, (.ireturn, 1, 0, 0)]
def E121 : List Ent := [(.iload_n 1, 1, 0, 0), (.iconst 0, 1, 0, 0), (.bipush 99, 2, 0, 0), zE, (.invokestatic 51, 3, 58, 0), zE, zE, (.istore_n 2, 1, 0, 0), (.iload_n 2, 1, 0, 0), (.ifCond .ne 16, 3, 0, 0), zE, zE, (.aload_n 0, 1, 0, 0), (.getfield 43, 3, 0, 6), zE, zE, (.invokevirtual 290, 3, 38, 4), zE, zE, (.ifCond .eq 6, 3, 0, 0), zE, zE, (.bipush (-6), 2, 0, 0), zE, (.istore_n 2, 1, 0, 0), (.iload_n 2, 1, 0, 0), (.ifCond .eq 11, 3, 0, 0), zE, zE, (.aload_n 0, 1, 0, 0), (.iload_n 2, 1, 0, 0), (.invokevirtual 59, 3, 59, 0), zE, zE, (.goto 11, 3, 0, 0), zE, zE, (.aload_n 0, 1, 0, 0), (.getfield 43, 3, 0, 6), zE, zE, (.iload_n 1, 1, 0, 0), (.invokevirtual 291, 3, 39, 4), zE, zE, (.ireturn, 1, 0, 0)]
def E122 : List Ent := [(.aload_n 0, 1, 0, 0), (.iload_n 1, 1, 0, 0), (.invokevirtual 82, 3, 66, 0), zE, zE, (.iload_n 2, 1, 0, 0), (.iconst 1, 1, 0, 0), (.bipush 12, 2, 0, 0), zE, (.invokestatic 51, 3, 58, 0), zE, zE, (.invokestatic 89, 3, 62, 0), zE, zE, (.istore_n 3, 1, 0, 0), (.iload_n 3, 1, 0, 0), (.ifCond .eq 9, 3, 0, 0), zE, zE, (.aload_n 0, 1, 0, 0), (.iload_n 3, 1, 0, 0), (.invokevirtual 59, 3, 59, 0), zE, zE, (.ireturn, 1, 0, 0), (.iconst 0, 1, 0, 0), (.istore 4, 2, 0, 0), zE, (.iconst 0, 1, 0, 0), (.istore 5, 2, 0, 0), zE, (.iload 5, 2, 0, 0), zE, (.aload_n 0, 1, 0, 0), (.getfield 10, 3, 0, 0), zE, zE, (.getfield 136, 3, 1, 9), zE, zE, (.if_icmp .ge 35, 3, 0, 0), zE, zE, (.iload 5, 2, 0, 0), zE, (.iload_n 1, 1, 0, 0), (.if_icmp .eq 23, 3, 0, 0), zE, zE, (.aload_n 0, 1, 0, 0), (.iload_n 1, 1, 0, 0), (.iload 5, 2, 0, 0), zE, (.iload_n 2, 1, 0, 0), (.invokevirtual 216, 3, 108, 0), zE, zE, (.ifCond .eq 12, 3, 0, 0), zE, zE, (.iload 4, 2, 0, 0), zE, (.iconst 1, 1, 0, 0), (.iload 5, 2, 0, 0), zE, (.ishl, 1, 0, 0), (.ior, 1, 0, 0), (.istore 4, 2, 0, 0), zE, (.iinc 5 1, 3, 0, 0), zE, zE, (.goto (-41), 3, 0, 0), zE, zE, (.iload 4, 2, 0, 0), zE, (.ireturn, 1, 0, 0)]
def E123 : List Ent := [(.iconst 0, 1, 0, 0), (.istore_n 1, 1, 0, 0), (.iconst 0, 1, 0, 0), (.istore_n 2, 1, 0, 0), (.iload_n 2, 1, 0, 0), (.aload_n 0, 1, 0, 0), (.getfield 10, 3, 0, 0), zE, zE, (.getfield 136, 3, 1, 9), zE, zE, (.if_icmp .ge 52, 3, 0, 0), zE, zE, (.iload_n 2, 1, 0, 0), (.iconst 1, 1, 0, 0), (.iadd, 1, 0, 0), (.istore_n 3, 1, 0, 0), (.iload_n 3, 1, 0, 0), (.aload_n 0, 1, 0, 0), (.getfield 10, 3, 0, 0), zE, zE, (.getfield 136, 3, 1, 9), zE, zE, (.if_icmp .ge 31, 3, 0, 0), zE, zE, (.aload_n 0, 1, 0, 0), (.getfield 10, 3, 0, 0), zE, zE, (.iload_n 2, 1, 0, 0), (.invokevirtual 177, 3, 54, 0), zE, zE, (.aload_n 0, 1, 0, 0), (.getfield 10, 3, 0, 0), zE, zE, (.iload_n 3, 1, 0, 0), (.invokevirtual 177, 3, 54, 0), zE, zE, (.if_icmp .ne 6, 3, 0, 0), zE, zE, (.iinc 1 1, 3, 0, 0), zE, zE, (.iinc 3 1, 3, 0, 0), zE, zE, (.goto (-36), 3, 0, 0), zE, zE, (.iinc 2 1, 3, 0, 0), zE, zE, (.goto (-57), 3, 0, 0), zE, zE, (.iload_n 1, 1, 0, 0), (.ireturn, 1, 0, 0)]
def E124 : List Ent := [(.aload_n 0, 1, 0, 0), (.iload_n 1, 1, 0, 0), (.invokevirtual 82, 3, 66, 0), zE, zE, (.iload_n 2, 1, 0, 0), (.iconst 2, 1, 0, 0), (.invokestatic 85, 3, 61, 0), zE, zE, (.iload_n 3, 1, 0, 0), (.iconst 0, 1, 0, 0), (.bipush 99, 2, 0, 0), zE, (.invokestatic 51, 3, 58, 0), zE, zE, (.invokestatic 140, 3, 67, 0), zE, zE, (.istore 4, 2, 0, 0), zE, (.iload 4, 2, 0, 0), zE, (.ifCond .eq 10, 3, 0, 0), zE, zE, (.aload_n 0, 1, 0, 0), (.iload 4, 2, 0, 0), zE, (.invokevirtual 59, 3, 59, 0), zE, zE, (.ireturn, 1, 0, 0), (.aload_n 0, 1, 0, 0), (.getfield 29, 3, 0, 4), zE, zE, (.aload_n 0, 1, 0, 0), (.getfield 10, 3, 0, 0), zE, zE, (.invokevirtual 142, 3, 8, 0), zE, zE, (.iload_n 2, 1, 0, 0), (.lookupswitch 74 #[(0, 26), (1, 50)], 26, 0, 0), zE, zE, zE, zE, zE, zE, zE, zE, zE, zE, zE, zE, zE, zE, zE, zE, zE, zE, zE, zE, zE, zE, zE, zE, zE, (.aload_n 0, 1, 0, 0), (.getfield 10, 3, 0, 0), zE, zE, (.getfield 98, 3, 1, 2), zE, zE, (.iload_n 1, 1, 0, 0), (.iaload, 1, 0, 0), (.istore 5, 2, 0, 0), zE, (.aload_n 0, 1, 0, 0), (.getfield 10, 3, 0, 0), zE, zE, (.getfield 98, 3, 1, 2), zE, zE, (.iload_n 1, 1, 0, 0), (.iload_n 3, 1, 0, 0), (.iastore, 1, 0, 0), (.goto 47, 3, 0, 0), zE, zE, (.aload_n 0, 1, 0, 0), (.getfield 10, 3, 0, 0), zE, zE, (.getfield 101, 3, 1, 3), zE, zE, (.iload_n 1, 1, 0, 0), (.iaload, 1, 0, 0), (.istore 5, 2, 0, 0), zE, (.aload_n 0, 1, 0, 0), (.getfield 10, 3, 0, 0), zE, zE, (.getfield 101, 3, 1, 3), zE, zE, (.iload_n 1, 1, 0, 0), (.iload_n 3, 1, 0, 0), (.iastore, 1, 0, 0), (.goto 23, 3, 0, 0), zE, zE, (.aload_n 0, 1, 0, 0), (.getfield 10, 3, 0, 0), zE, zE, (.getfield 104, 3, 1, 4), zE, zE, (.iload_n 1, 1, 0, 0), (.iaload, 1, 0, 0), (.istore 5, 2, 0, 0), zE, (.aload_n 0, 1, 0, 0), (.getfield 10, 3, 0, 0), zE, zE, (.iload_n 1, 1, 0, 0), (.iload_n 3, 1, 0, 0), (.invokevirtual 145, 3, 18, 0), zE, zE, (.iload 5, 2, 0, 0), zE, (.ireturn, 1, 0, 0)]
def E125 : List Ent := [(.iload_n 1, 1, 0, 0), (.iconst 1, 1, 0, 0), (.invokestatic 85, 3, 61, 0), zE, zE, (.istore_n 2, 1, 0, 0), (.iload_n 2, 1, 0, 0), (.ifCond .eq 9, 3, 0, 0), zE, zE, (.aload_n 0, 1, 0, 0), (.iload_n 2, 1, 0, 0), (.invokevirtual 59, 3, 59, 0), zE, zE, (.ireturn, 1, 0, 0), (.aload_n 0, 1, 0, 0), (.getfield 10, 3, 0, 0), zE, zE, (.getfield 136, 3, 1, 9), zE, zE, (.ifCond .ne 5, 3, 0, 0), zE, zE, (.iconst 0, 1, 0, 0), (.ireturn, 1, 0, 0), (.iload_n 1, 1, 0, 0), (.ifCond .ne 21, 3, 0, 0), zE, zE, (.aload_n 0, 1, 0, 0), (.getfield 10, 3, 0, 0), zE, zE, (.invokevirtual 229, 3, 46, 0), zE, zE, (.aload_n 0, 1, 0, 0), (.getfield 10, 3, 0, 0), zE, zE, (.getfield 136, 3, 1, 9), zE, zE, (.idiv, 1, 0, 0), (.goto 18, 3, 0, 0), zE, zE, (.aload_n 0, 1, 0, 0), (.getfield 10, 3, 0, 0), zE, zE, (.invokevirtual 229, 3, 46, 0), zE, zE, (.aload_n 0, 1, 0, 0), (.getfield 10, 3, 0, 0), zE, zE, (.getfield 136, 3, 1, 9), zE, zE, (.irem, 1, 0, 0), (.ireturn, 1, 0, 0)]
def E126 : List Ent := [(.iload_n 1, 1, 0, 0), (.iconst 0, 1, 0, 0), (.bipush 9, 2, 0, 0), zE, (.invokestatic 51, 3, 58, 0), zE, zE, (.iload_n 2, 1, 0, 0), (.iconst 1, 1, 0, 0), (.invokestatic 85, 3, 61, 0), zE, zE, (.invokestatic 89, 3, 62, 0), zE, zE, (.istore_n 3, 1, 0, 0), (.iload_n 3, 1, 0, 0), (.ifCond .eq 9, 3, 0, 0), zE, zE, (.aload_n 0, 1, 0, 0), (.iload_n 3, 1, 0, 0), (.invokevirtual 59, 3, 59, 0), zE, zE, (.ireturn, 1, 0, 0), (.iconst 0, 1, 0, 0), (.istore 4, 2, 0, 0), zE, (.bipush (-9), 2, 0, 0), zE, (.istore 5, 2, 0, 0), zE, (.iconst (-1), 1, 0, 0), (.istore 6, 2, 0, 0), zE, (.iconst 0, 1, 0, 0), (.istore 7, 2, 0, 0), zE, (.iload 7, 2, 0, 0), zE, (.aload_n 0, 1, 0, 0), (.getfield 10, 3, 0, 0), zE, zE, (.getfield 136, 3, 1, 9), zE, zE, (.if_icmp .ge 44, 3, 0, 0), zE, zE, (.iload_n 1, 1, 0, 0), (.aload_n 0, 1, 0, 0), (.getfield 10, 3, 0, 0), zE, zE, (.iload 7, 2, 0, 0), zE, (.invokevirtual 124, 3, 49, 0), zE, zE, (.imul, 1, 0, 0), (.istore 8, 2, 0, 0), zE, (.iload 4, 2, 0, 0), zE, (.iload 8, 2, 0, 0), zE, (.iadd, 1, 0, 0), (.istore 4, 2, 0, 0), zE, (.iload 8, 2, 0, 0), zE, (.iload 6, 2, 0, 0), zE, (.if_icmp .le 11, 3, 0, 0), zE, zE, (.iload 8, 2, 0, 0), zE, (.istore 6, 2, 0, 0), zE, (.iload 7, 2, 0, 0), zE, (.istore 5, 2, 0, 0), zE, (.iinc 7 1, 3, 0, 0), zE, zE, (.goto (-50), 3, 0, 0), zE, zE, (.iload_n 2, 1, 0, 0), (.ifCond .ne 8, 3, 0, 0), zE, zE, (.iload 4, 2, 0, 0), zE, (.goto 5, 3, 0, 0), zE, zE, (.iload 5, 2, 0, 0), zE, (.ireturn, 1, 0, 0)]
def E127 : List Ent := [(.aload_n 0, 1, 0, 0), (.getfield 36, 3, 0, 5), zE, zE, (.invokevirtual 66, 3, 34, 0), zE, zE, (.istore_n 1, 1, 0, 0), (.iload_n 1, 1, 0, 0), (.ifCond .ne 26, 3, 0, 0), zE, zE, (.aload_n 0, 1, 0, 0), (.getfield 16, 3, 0, 1), zE, zE, (.aload_n 0, 1, 0, 0), (.getfield 10, 3, 0, 0), zE, zE, (.invokevirtual 70, 3, 7, 0), zE, zE, (.aload_n 0, 1, 0, 0), (.getfield 36, 3, 0, 5), zE, zE, (.aload_n 0, 1, 0, 0), (.getfield 16, 3, 0, 1), zE, zE, (.invokevirtual 74, 3, 37, 0), zE, zE, (.istore_n 1, 1, 0, 0), (.aload_n 0, 1, 0, 0), (.getfield 36, 3, 0, 5), zE, zE, (.invokevirtual 78, 3, 40, 3), zE, zE, (.iload_n 1, 1, 0, 0), (.ifCond .le 21, 3, 0, 0), zE, zE, (.aload_n 0, 1, 0, 0), (.getfield 10, 3, 0, 0), zE, zE, (.aload_n 0, 1, 0, 0), (.getfield 16, 3, 0, 1), zE, zE, (.invokevirtual 70, 3, 7, 0), zE, zE, (.aload_n 0, 1, 0, 0), (.getfield 29, 3, 0, 4), zE, zE, (.invokevirtual 81, 3, 4, 0), zE, zE, (.iload_n 1, 1, 0, 0), (.ireturn, 1, 0, 0)]
def E128 : List Ent := [(.aload_n 0, 1, 0, 0), (.iload_n 1, 1, 0, 0), (.invokevirtual 82, 3, 66, 0), zE, zE, (.iload_n 2, 1, 0, 0), (.iconst 1, 1, 0, 0), (.bipush 12, 2, 0, 0), zE, (.invokestatic 51, 3, 58, 0), zE, zE, (.invokestatic 89, 3, 62, 0), zE, zE, (.istore_n 3, 1, 0, 0), (.iload_n 3, 1, 0, 0), (.ifCond .eq 9, 3, 0, 0), zE, zE, (.aload_n 0, 1, 0, 0), (.iload_n 3, 1, 0, 0), (.invokevirtual 59, 3, 59, 0), zE, zE, (.ireturn, 1, 0, 0), (.aload_n 0, 1, 0, 0), (.getfield 10, 3, 0, 0), zE, zE, (.getfield 136, 3, 1, 9), zE, zE, (.iconst 2, 1, 0, 0), (.if_icmp .ge 6, 3, 0, 0), zE, zE, (.bipush (-9), 2, 0, 0), zE, (.ireturn, 1, 0, 0), (.bipush 9, 2, 0, 0), zE, (.istore 4, 2, 0, 0), zE, (.aload_n 0, 1, 0, 0), (.iload_n 1, 1, 0, 0), (.iconst (-1), 1, 0, 0), (.iload_n 2, 1, 0, 0), (.invokevirtual 210, 3, 114, 0), zE, zE, (.istore 5, 2, 0, 0), zE, (.iconst 0, 1, 0, 0), (.istore 6, 2, 0, 0), zE, (.iload 6, 2, 0, 0), zE, (.aload_n 0, 1, 0, 0), (.getfield 10, 3, 0, 0), zE, zE, (.getfield 136, 3, 1, 9), zE, zE, (.if_icmp .ge 44, 3, 0, 0), zE, zE, (.iload 6, 2, 0, 0), zE, (.iload_n 1, 1, 0, 0), (.if_icmp .ne 7, 3, 0, 0), zE, zE, (.iconst (-1), 1, 0, 0), (.goto 11, 3, 0, 0), zE, zE, (.aload_n 0, 1, 0, 0), (.iload_n 1, 1, 0, 0), (.iload 6, 2, 0, 0), zE, (.iload_n 2, 1, 0, 0), (.invokevirtual 210, 3, 114, 0), zE, zE, (.istore 7, 2, 0, 0), zE, (.iload 7, 2, 0, 0), zE, (.iload 5, 2, 0, 0), zE, (.if_icmp .le 11, 3, 0, 0), zE, zE, (.iload 7, 2, 0, 0), zE, (.istore 5, 2, 0, 0), zE, (.iload 6, 2, 0, 0), zE, (.istore 4, 2, 0, 0), zE, (.iinc 6 1, 3, 0, 0), zE, zE, (.goto (-50), 3, 0, 0), zE, zE, (.iload 4, 2, 0, 0), zE, (.ireturn, 1, 0, 0)]
def E129 : List Ent := [(.aload_n 0, 1, 0, 0), (.iload_n 1, 1, 0, 0), (.invokevirtual 82, 3, 66, 0), zE, zE, (.istore_n 2, 1, 0, 0), (.iload_n 2, 1, 0, 0), (.ifCond .eq 9, 3, 0, 0), zE, zE, (.aload_n 0, 1, 0, 0), (.iload_n 2, 1, 0, 0), (.invokevirtual 59, 3, 59, 0), zE, zE, (.ireturn, 1, 0, 0), (.iconst 0, 1, 0, 0), (.istore_n 3, 1, 0, 0), (.iconst 0, 1, 0, 0), (.istore 4, 2, 0, 0), zE, (.iload 4, 2, 0, 0), zE, (.aload_n 0, 1, 0, 0), (.getfield 10, 3, 0, 0), zE, zE, (.getfield 136, 3, 1, 9), zE, zE, (.if_icmp .ge 26, 3, 0, 0), zE, zE, (.aload_n 0, 1, 0, 0), (.getfield 10, 3, 0, 0), zE, zE, (.getfield 118, 3, 1, 7), zE, zE, (.iload 4, 2, 0, 0), zE, (.iaload, 1, 0, 0), (.iload_n 1, 1, 0, 0), (.if_icmp .ne 6, 3, 0, 0), zE, zE, (.iinc 3 1, 3, 0, 0), zE, zE, (.iinc 4 1, 3, 0, 0), zE, zE, (.goto (-32), 3, 0, 0), zE, zE, (.iload_n 3, 1, 0, 0), (.ireturn, 1, 0, 0)]
def E130 : List Ent := [(.aload_n 0, 1, 0, 0), (.iload_n 1, 1, 0, 0), (.iload_n 2, 1, 0, 0), (.invokevirtual 149, 3, 73, 0), zE, zE, (.istore_n 3, 1, 0, 0), (.iload_n 3, 1, 0, 0), (.ifCond .eq 9, 3, 0, 0), zE, zE, (.aload_n 0, 1, 0, 0), (.iload_n 3, 1, 0, 0), (.invokevirtual 59, 3, 59, 0), zE, zE, (.ireturn, 1, 0, 0), (.aload_n 0, 1, 0, 0), (.getfield 29, 3, 0, 4), zE, zE, (.aload_n 0, 1, 0, 0), (.getfield 10, 3, 0, 0), zE, zE, (.invokevirtual 142, 3, 8, 0), zE, zE, (.aload_n 0, 1, 0, 0), (.getfield 10, 3, 0, 0), zE, zE, (.iload_n 1, 1, 0, 0), (.iload_n 2, 1, 0, 0), (.invokevirtual 152, 3, 20, 0), zE, zE, (.aload_n 0, 1, 0, 0), (.getfield 10, 3, 0, 0), zE, zE, (.getfield 118, 3, 1, 7), zE, zE, (.iload_n 1, 1, 0, 0), (.iaload, 1, 0, 0), (.iload_n 2, 1, 0, 0), (.if_icmp .ne 7, 3, 0, 0), zE, zE, (.iconst 1, 1, 0, 0), (.goto 4, 3, 0, 0), zE, zE, (.iconst 0, 1, 0, 0), (.invokestatic 111, 3, 68, 0), zE, zE, (.ireturn, 1, 0, 0)]
def E131 : List Ent := [(.iconst 0, 1, 0, 0), (.istore_n 1, 1, 0, 0), (.iconst 0, 1, 0, 0), (.istore_n 2, 1, 0, 0), (.iload_n 2, 1, 0, 0), (.aload_n 0, 1, 0, 0), (.getfield 10, 3, 0, 0), zE, zE, (.getfield 136, 3, 1, 9), zE, zE, (.if_icmp .ge 39, 3, 0, 0), zE, zE, (.aload_n 0, 1, 0, 0), (.getfield 10, 3, 0, 0), zE, zE, (.getfield 104, 3, 1, 4), zE, zE, (.iload_n 2, 1, 0, 0), (.iaload, 1, 0, 0), (.ifCond .le 21, 3, 0, 0), zE, zE, (.aload_n 0, 1, 0, 0), (.getfield 10, 3, 0, 0), zE, zE, (.getfield 107, 3, 1, 5), zE, zE, (.iload_n 2, 1, 0, 0), (.baload, 1, 0, 0), (.ifCond .ne 9, 3, 0, 0), zE, zE, (.iload_n 1, 1, 0, 0), (.iconst 1, 1, 0, 0), (.iload_n 2, 1, 0, 0), (.ishl, 1, 0, 0), (.ior, 1, 0, 0), (.istore_n 1, 1, 0, 0), (.iinc 2 1, 3, 0, 0), zE, zE, (.goto (-44), 3, 0, 0), zE, zE, (.iload_n 1, 1, 0, 0), (.ireturn, 1, 0, 0)]
def E132 : List Ent := [(.aload_n 0, 1, 0, 0), (.iload_n 1, 1, 0, 0), (.invokevirtual 82, 3, 66, 0), zE, zE, (.iload_n 2, 1, 0, 0), (.iconst 3, 1, 0, 0), (.invokestatic 85, 3, 61, 0), zE, zE, (.invokestatic 89, 3, 62, 0), zE, zE, (.istore_n 3, 1, 0, 0), (.iload_n 3, 1, 0, 0), (.ifCond .eq 9, 3, 0, 0), zE, zE, (.aload_n 0, 1, 0, 0), (.iload_n 3, 1, 0, 0), (.invokevirtual 59, 3, 59, 0), zE, zE, (.ireturn, 1, 0, 0), (.iload_n 2, 1, 0, 0), (.tableswitch 45 0 2 #[27, 33, 39], 27, 0, 0), zE, zE, zE, zE, zE, zE, zE, zE, zE, zE, zE, zE, zE, zE, zE, zE, zE, zE, zE, zE, zE, zE, zE, zE, zE, zE, (.aload_n 0, 1, 0, 0), (.iload_n 1, 1, 0, 0), (.invokevirtual 232, 3, 95, 0), zE, zE, (.ireturn, 1, 0, 0), (.aload_n 0, 1, 0, 0), (.iload_n 1, 1, 0, 0), (.invokevirtual 235, 3, 102, 0), zE, zE, (.ireturn, 1, 0, 0), (.aload_n 0, 1, 0, 0), (.iload_n 1, 1, 0, 0), (.invokevirtual 238, 3, 100, 0), zE, zE, (.ireturn, 1, 0, 0), (.aload_n 0, 1, 0, 0), (.iload_n 1, 1, 0, 0), (.invokevirtual 241, 3, 82, 0), zE, zE, (.ireturn, 1, 0, 0)]
def E133 : List Ent := [(.aload_n 0, 1, 0, 0), (.iload_n 1, 1, 0, 0), (.invokevirtual 82, 3, 66, 0), zE, zE, (.istore_n 2, 1, 0, 0), (.iload_n 2, 1, 0, 0), (.ifCond .eq 9, 3, 0, 0), zE, zE, (.aload_n 0, 1, 0, 0), (.iload_n 2, 1, 0, 0), (.invokevirtual 59, 3, 59, 0), zE, zE, (.ireturn, 1, 0, 0), (.iconst 0, 1, 0, 0), (.istore_n 3, 1, 0, 0), (.iconst 0, 1, 0, 0), (.istore 4, 2, 0, 0), zE, (.iload 4, 2, 0, 0), zE, (.aload_n 0, 1, 0, 0), (.getfield 10, 3, 0, 0), zE, zE, (.getfield 136, 3, 1, 9), zE, zE, (.if_icmp .ge 48, 3, 0, 0), zE, zE, (.iload 4, 2, 0, 0), zE, (.iload_n 1, 1, 0, 0), (.if_icmp .eq 36, 3, 0, 0), zE, zE, (.aload_n 0, 1, 0, 0), (.iload_n 1, 1, 0, 0), (.aload_n 0, 1, 0, 0), (.getfield 10, 3, 0, 0), zE, zE, (.iload_n 1, 1, 0, 0), (.aload_n 0, 1, 0, 0), (.getfield 10, 3, 0, 0), zE, zE, (.getfield 98, 3, 1, 2), zE, zE, (.iload 4, 2, 0, 0), zE, (.iaload, 1, 0, 0), (.invokevirtual 257, 3, 24, 0), zE, zE, (.invokevirtual 251, 3, 91, 0), zE, zE, (.ifCond .eq 10, 3, 0, 0), zE, zE, (.iload_n 3, 1, 0, 0), (.iconst 1, 1, 0, 0), (.iload 4, 2, 0, 0), zE, (.ishl, 1, 0, 0), (.ior, 1, 0, 0), (.istore_n 3, 1, 0, 0), (.iinc 4 1, 3, 0, 0), zE, zE, (.goto (-54), 3, 0, 0), zE, zE, (.iload_n 3, 1, 0, 0), (.ireturn, 1, 0, 0)]
def E134 : List Ent := [(.iload_n 0, 1, 0, 0), (.iload_n 1, 1, 0, 0), (.if_icmp .ge 8, 3, 0, 0), zE, zE, (.bipush (-4), 2, 0, 0), zE, (.goto 14, 3, 0, 0), zE, zE, (.iload_n 0, 1, 0, 0), (.iload_n 2, 1, 0, 0), (.if_icmp .le 8, 3, 0, 0), zE, zE, (.bipush (-6), 2, 0, 0), zE, (.goto 4, 3, 0, 0), zE, zE, (.iconst 0, 1, 0, 0), (.ireturn, 1, 0, 0)]
def E135 : List Ent := [(.aload_n 0, 1, 0, 0), (.getfield 34, 3, 5, 11), zE, zE, (.iload_n 1, 1, 0, 0), (.ineg, 1, 0, 0), (.dup2, 1, 0, 0), (.iaload, 1, 0, 0), (.iconst 1, 1, 0, 0), (.iadd, 1, 0, 0), (.iastore, 1, 0, 0), (.iload_n 1, 1, 0, 0), (.ireturn, 1, 0, 0)]
def E136 : List Ent := [(.aload_n 0, 1, 0, 0), (.getfield 16, 3, 5, 3), zE, zE, (.iload_n 1, 1, 0, 0), (.iaload, 1, 0, 0), (.aload_n 0, 1, 0, 0), (.getfield 19, 3, 5, 4), zE, zE, (.iload_n 1, 1, 0, 0), (.iaload, 1, 0, 0), (.iadd, 1, 0, 0), (.istore_n 2, 1, 0, 0), (.aload_n 0, 1, 0, 0), (.getfield 7, 3, 5, 1), zE, zE, (.iload_n 1, 1, 0, 0), (.iaload, 1, 0, 0), (.tableswitch 98 1 5 #[36, 41, 68, 77, 91], 36, 0, 0), zE, zE, zE, zE, zE, zE, zE, zE, zE, zE, zE, zE, zE, zE, zE, zE, zE, zE, zE, zE, zE, zE, zE, zE, zE, zE, zE, zE, zE, zE, zE, zE, zE, zE, zE, (.iload_n 2, 1, 0, 0), (.bipush 10, 2, 0, 0), zE, (.iadd, 1, 0, 0), (.ireturn, 1, 0, 0), (.iload_n 2, 1, 0, 0), (.iconst 2, 1, 0, 0), (.idiv, 1, 0, 0), (.aload_n 0, 1, 0, 0), (.getfield 13, 3, 5, 2), zE, zE, (.iload_n 1, 1, 0, 0), (.iaload, 1, 0, 0), (.if_icmp .le 16, 3, 0, 0), zE, zE, (.iload_n 2, 1, 0, 0), (.iconst 2, 1, 0, 0), (.idiv, 1, 0, 0), (.aload_n 0, 1, 0, 0), (.getfield 13, 3, 5, 2), zE, zE, (.iload_n 1, 1, 0, 0), (.iaload, 1, 0, 0), (.isub, 1, 0, 0), (.goto 4, 3, 0, 0), zE, zE, (.iconst 0, 1, 0, 0), (.ireturn, 1, 0, 0), (.iload_n 2, 1, 0, 0), (.aload_n 0, 1, 0, 0), (.getfield 19, 3, 5, 4), zE, zE, (.iload_n 1, 1, 0, 0), (.iaload, 1, 0, 0), (.iadd, 1, 0, 0), (.ireturn, 1, 0, 0), (.iload_n 2, 1, 0, 0), (.bipush 10, 2, 0, 0), zE, (.iadd, 1, 0, 0), (.aload_n 0, 1, 0, 0), (.getfield 16, 3, 5, 3), zE, zE, (.iload_n 1, 1, 0, 0), (.iaload, 1, 0, 0), (.iconst 2, 1, 0, 0), (.idiv, 1, 0, 0), (.isub, 1, 0, 0), (.ireturn, 1, 0, 0), (.aload_n 0, 1, 0, 0), (.getfield 13, 3, 5, 2), zE, zE, (.iload_n 1, 1, 0, 0), (.iaload, 1, 0, 0), (.ireturn, 1, 0, 0), (.iload_n 2, 1, 0, 0), (.ireturn, 1, 0, 0)]
def E137 : List Ent := [(.aload_n 0, 1, 0, 0), (.iconst 0, 1, 0, 0), (.putfield 67, 3, 5, 10), zE, zE, (.iload_n 1, 1, 0, 0), (.iconst 0, 1, 0, 0), (.sipush 999, 3, 0, 0), zE, zE, (.invokestatic 198, 3, 134, 0), zE, zE, (.ifCond .ge 16, 3, 0, 0), zE, zE, (.aload_n 0, 1, 0, 0), (.iload_n 1, 1, 0, 0), (.iconst 0, 1, 0, 0), (.sipush 999, 3, 0, 0), zE, zE, (.invokestatic 198, 3, 134, 0), zE, zE, (.invokevirtual 106, 3, 135, 0), zE, zE, (.ireturn, 1, 0, 0), (.iconst 0, 1, 0, 0), (.istore_n 2, 1, 0, 0), (.iconst 0, 1, 0, 0), (.istore_n 3, 1, 0, 0), (.iload_n 3, 1, 0, 0), (.aload_n 0, 1, 0, 0), (.getfield 71, 3, 5, 0), zE, zE, (.if_icmp .ge 26, 3, 0, 0), zE, zE, (.iload_n 2, 1, 0, 0), (.aload_n 0, 1, 0, 0), (.iload_n 3, 1, 0, 0), (.invokevirtual 82, 3, 136, 0), zE, zE, (.iload_n 1, 1, 0, 0), (.if_icmp .lt 7, 3, 0, 0), zE, zE, (.iconst 1, 1, 0, 0), (.goto 4, 3, 0, 0), zE, zE, (.iconst 0, 1, 0, 0), (.iadd, 1, 0, 0), (.istore_n 2, 1, 0, 0), (.iinc 3 1, 3, 0, 0), zE, zE, (.goto (-28), 3, 0, 0), zE, zE, (.iload_n 2, 1, 0, 0), (.ireturn, 1, 0, 0)]
def E138 : List Ent := [(.aload_n 0, 1, 0, 0), (.getfield 171, 3, 5, 25), zE, zE, (.ifCond .eq 13, 3, 0, 0), zE, zE, (.aload_n 0, 1, 0, 0), (.getfield 174, 3, 5, 26), zE, zE, (.aload_n 0, 1, 0, 0), (.getfield 177, 3, 5, 24), zE, zE, (.iload_n 1, 1, 0, 0), (.iastore, 1, 0, 0), (.aload_n 0, 1, 0, 0), (.dup, 1, 0, 0), (.getfield 177, 3, 5, 24), zE, zE, (.iconst 1, 1, 0, 0), (.iadd, 1, 0, 0), (.putfield 177, 3, 5, 24), zE, zE, (.aload_n 0, 1, 0, 0), (.getfield 174, 3, 5, 26), zE, zE, (.aload_n 0, 1, 0, 0), (.getfield 177, 3, 5, 24), zE, zE, (.iconst 1, 1, 0, 0), (.isub, 1, 0, 0), (.iaload, 1, 0, 0), (.ireturn, 1, 0, 0)]
def E139 : List Ent := [(.aload_n 0, 1, 0, 0), (.aload_n 1, 1, 0, 0), (.putfield 174, 3, 5, 26), zE, zE, (.aload_n 0, 1, 0, 0), (.iload_n 2, 1, 0, 0), (.putfield 171, 3, 5, 25), zE, zE, (.aload_n 0, 1, 0, 0), (.iconst 0, 1, 0, 0), (.putfield 177, 3, 5, 24), zE, zE, (.aload_n 0, 1, 0, 0), (.aload_n 0, 1, 0, 0), (.aload_n 0, 1, 0, 0), (.getfield 71, 3, 5, 0), zE, zE, (.invokevirtual 180, 3, 138, 0), zE, zE, (.putfield 71, 3, 5, 0), zE, zE, (.aload_n 0, 1, 0, 0), (.aload_n 0, 1, 0, 0), (.aload_n 0, 1, 0, 0), (.getfield 89, 3, 5, 9), zE, zE, (.invokevirtual 180, 3, 138, 0), zE, zE, (.putfield 89, 3, 5, 9), zE, zE, (.iconst 0, 1, 0, 0), (.istore_n 3, 1, 0, 0), (.iload_n 3, 1, 0, 0), (.bipush 6, 2, 0, 0), zE, (.if_icmp .ge 137, 3, 0, 0), zE, zE, (.aload_n 0, 1, 0, 0), (.getfield 7, 3, 5, 1), zE, zE, (.iload_n 3, 1, 0, 0), (.aload_n 0, 1, 0, 0), (.aload_n 0, 1, 0, 0), (.getfield 7, 3, 5, 1), zE, zE, (.iload_n 3, 1, 0, 0), (.iaload, 1, 0, 0), (.invokevirtual 180, 3, 138, 0), zE, zE, (.iastore, 1, 0, 0), (.aload_n 0, 1, 0, 0), (.getfield 13, 3, 5, 2), zE, zE, (.iload_n 3, 1, 0, 0), (.aload_n 0, 1, 0, 0), (.aload_n 0, 1, 0, 0), (.getfield 13, 3, 5, 2), zE, zE, (.iload_n 3, 1, 0, 0), (.iaload, 1, 0, 0), (.invokevirtual 180, 3, 138, 0), zE, zE, (.iastore, 1, 0, 0), (.aload_n 0, 1, 0, 0), (.getfield 16, 3, 5, 3), zE, zE, (.iload_n 3, 1, 0, 0), (.aload_n 0, 1, 0, 0), (.aload_n 0, 1, 0, 0), (.getfield 16, 3, 5, 3), zE, zE, (.iload_n 3, 1, 0, 0), (.iaload, 1, 0, 0), (.invokevirtual 180, 3, 138, 0), zE, zE, (.iastore, 1, 0, 0), (.aload_n 0, 1, 0, 0), (.getfield 19, 3, 5, 4), zE, zE, (.iload_n 3, 1, 0, 0), (.aload_n 0, 1, 0, 0), (.aload_n 0, 1, 0, 0), (.getfield 19, 3, 5, 4), zE, zE, (.iload_n 3, 1, 0, 0), (.iaload, 1, 0, 0), (.invokevirtual 180, 3, 138, 0), zE, zE, (.iastore, 1, 0, 0), (.aload_n 0, 1, 0, 0), (.getfield 22, 3, 5, 5), zE, zE, (.iload_n 3, 1, 0, 0), (.aload_n 0, 1, 0, 0), (.aload_n 0, 1, 0, 0), (.getfield 22, 3, 5, 5), zE, zE, (.iload_n 3, 1, 0, 0), (.iaload, 1, 0, 0), (.invokevirtual 180, 3, 138, 0), zE, zE, (.iastore, 1, 0, 0), (.aload_n 0, 1, 0, 0), (.getfield 25, 3, 5, 6), zE, zE, (.iload_n 3, 1, 0, 0), (.aload_n 0, 1, 0, 0), (.aload_n 0, 1, 0, 0), (.getfield 25, 3, 5, 6), zE, zE, (.iload_n 3, 1, 0, 0), (.iaload, 1, 0, 0), (.invokevirtual 180, 3, 138, 0), zE, zE, (.iastore, 1, 0, 0), (.aload_n 0, 1, 0, 0), (.getfield 28, 3, 5, 7), zE, zE, (.iload_n 3, 1, 0, 0), (.aload_n 0, 1, 0, 0), (.aload_n 0, 1, 0, 0), (.getfield 28, 3, 5, 7), zE, zE, (.iload_n 3, 1, 0, 0), (.iaload, 1, 0, 0), (.invokevirtual 180, 3, 138, 0), zE, zE, (.iastore, 1, 0, 0), (.aload_n 0, 1, 0, 0), (.getfield 31, 3, 5, 8), zE, zE, (.iload_n 3, 1, 0, 0), (.aload_n 0, 1, 0, 0), (.aload_n 0, 1, 0, 0), (.getfield 31, 3, 5, 8), zE, zE, (.iload_n 3, 1, 0, 0), (.iaload, 1, 0, 0), (.invokevirtual 180, 3, 138, 0), zE, zE, (.iastore, 1, 0, 0), (.iinc 3 1, 3, 0, 0), zE, zE, (.goto (-137), 3, 0, 0), zE, zE, (.return_, 1, 0, 0)]
def E140 : List Ent := [(.aload_n 0, 1, 0, 0), (.aload_n 0, 1, 0, 0), (.getfield 52, 3, 5, 21), zE, zE, (.iconst 0, 1, 0, 0), (.invokevirtual 183, 3, 139, 0), zE, zE, (.return_, 1, 0, 0)]
def E141 : List Ent := [(.lload_n 0, 1, 0, 0), (.lload_n 2, 1, 0, 0), (.lcmp, 1, 0, 0), (.ifCond .lt 14, 3, 0, 0), zE, zE, (.lload_n 0, 1, 0, 0), (.lload 4, 2, 0, 0), zE, (.lcmp, 1, 0, 0), (.ifCond .gt 7, 3, 0, 0), zE, zE, (.iconst 1, 1, 0, 0), (.goto 4, 3, 0, 0), zE, zE, (.iconst 0, 1, 0, 0), (.ireturn, 1, 0, 0)]
def E142 : List Ent := [(.iload_n 0, 1, 0, 0), (.ifCond .ne 19, 3, 0, 0), zE, zE, (.iload_n 1, 1, 0, 0), (.i2l, 1, 0, 0), (.lconst 0, 1, 0, 0), (.iload_n 2, 1, 0, 0), (.i2l, 1, 0, 0), (.invokestatic 74, 3, 141, 0), zE, zE, (.ifCond .ne 8, 3, 0, 0), zE, zE, (.bipush (-2), 2, 0, 0), zE, (.goto 4, 3, 0, 0), zE, zE, (.iload_n 0, 1, 0, 0), (.ireturn, 1, 0, 0)]
def E143 : List Ent := [(.aload_n 0, 1, 0, 0), (.aload_n 0, 1, 0, 0), (.getfield 52, 3, 5, 21), zE, zE, (.iconst 1, 1, 0, 0), (.invokevirtual 183, 3, 139, 0), zE, zE, (.return_, 1, 0, 0)]
def E144 : List Ent := [(.iload_n 0, 1, 0, 0), (.iload_n 1, 1, 0, 0), (.if_icmp .ge 7, 3, 0, 0), zE, zE, (.iload_n 0, 1, 0, 0), (.goto 4, 3, 0, 0), zE, zE, (.iload_n 1, 1, 0, 0), (.ireturn, 1, 0, 0)]
def E145 : List Ent := [(.aload_n 0, 1, 0, 0), (.getfield 7, 3, 5, 1), zE, zE, (.iload_n 1, 1, 0, 0), (.iaload, 1, 0, 0), (.tableswitch 57 1 5 #[34, 57, 45, 34, 55], 34, 0, 0), zE, zE, zE, zE, zE, zE, zE, zE, zE, zE, zE, zE, zE, zE, zE, zE, zE, zE, zE, zE, zE, zE, zE, zE, zE, zE, zE, zE, zE, zE, zE, zE, zE, (.iconst 2, 1, 0, 0), (.aload_n 0, 1, 0, 0), (.iload_n 1, 1, 0, 0), (.invokevirtual 82, 3, 136, 0), zE, zE, (.bipush 10, 2, 0, 0), zE, (.idiv, 1, 0, 0), (.iadd, 1, 0, 0), (.ireturn, 1, 0, 0), (.iconst 1, 1, 0, 0), (.aload_n 0, 1, 0, 0), (.iload_n 1, 1, 0, 0), (.invokevirtual 82, 3, 136, 0), zE, zE, (.iconst 5, 1, 0, 0), (.idiv, 1, 0, 0), (.iadd, 1, 0, 0), (.ireturn, 1, 0, 0), (.iconst 1, 1, 0, 0), (.ireturn, 1, 0, 0), (.iconst 1, 1, 0, 0), (.aload_n 0, 1, 0, 0), (.iload_n 1, 1, 0, 0), (.invokevirtual 82, 3, 136, 0), zE, zE, (.bipush 10, 2, 0, 0), zE, (.idiv, 1, 0, 0), (.iadd, 1, 0, 0), (.ireturn, 1, 0, 0)]
def E146 : List Ent := [(.aload_n 0, 1, 0, 0), (.dup, 1, 0, 0), (.getfield 89, 3, 5, 9), zE, zE, (.iconst 1, 1, 0, 0), (.iadd, 1, 0, 0), (.putfield 89, 3, 5, 9), zE, zE, (.iconst 0, 1, 0, 0), (.istore_n 1, 1, 0, 0), (.iload_n 1, 1, 0, 0), (.aload_n 0, 1, 0, 0), (.getfield 71, 3, 5, 0), zE, zE, (.if_icmp .ge 93, 3, 0, 0), zE, zE, (.aload_n 0, 1, 0, 0), (.getfield 25, 3, 5, 6), zE, zE, (.iload_n 1, 1, 0, 0), (.iaload, 1, 0, 0), (.iconst 1, 1, 0, 0), (.if_icmp .ne 77, 3, 0, 0), zE, zE, (.aload_n 0, 1, 0, 0), (.getfield 28, 3, 5, 7), zE, zE, (.iload_n 1, 1, 0, 0), (.sipush 999, 3, 0, 0), zE, zE, (.aload_n 0, 1, 0, 0), (.getfield 28, 3, 5, 7), zE, zE, (.iload_n 1, 1, 0, 0), (.iaload, 1, 0, 0), (.iconst 1, 1, 0, 0), (.iadd, 1, 0, 0), (.invokestatic 92, 3, 144, 0), zE, zE, (.iastore, 1, 0, 0), (.aload_n 0, 1, 0, 0), (.iload_n 1, 1, 0, 0), (.invokevirtual 86, 3, 145, 0), zE, zE, (.istore_n 2, 1, 0, 0), (.aload_n 0, 1, 0, 0), (.getfield 22, 3, 5, 5), zE, zE, (.iload_n 1, 1, 0, 0), (.aload_n 0, 1, 0, 0), (.getfield 22, 3, 5, 5), zE, zE, (.iload_n 1, 1, 0, 0), (.iaload, 1, 0, 0), (.iload_n 2, 1, 0, 0), (.if_icmp .le 14, 3, 0, 0), zE, zE, (.aload_n 0, 1, 0, 0), (.getfield 22, 3, 5, 5), zE, zE, (.iload_n 1, 1, 0, 0), (.iaload, 1, 0, 0), (.iload_n 2, 1, 0, 0), (.isub, 1, 0, 0), (.goto 4, 3, 0, 0), zE, zE, (.iconst 0, 1, 0, 0), (.iastore, 1, 0, 0), (.aload_n 0, 1, 0, 0), (.getfield 25, 3, 5, 6), zE, zE, (.iload_n 1, 1, 0, 0), (.aload_n 0, 1, 0, 0), (.getfield 22, 3, 5, 5), zE, zE, (.iload_n 1, 1, 0, 0), (.iaload, 1, 0, 0), (.ifCond .le 7, 3, 0, 0), zE, zE, (.iconst 1, 1, 0, 0), (.goto 4, 3, 0, 0), zE, zE, (.iconst 0, 1, 0, 0), (.iastore, 1, 0, 0), (.iinc 1 1, 3, 0, 0), zE, zE, (.goto (-95), 3, 0, 0), zE, zE, (.return_, 1, 0, 0)]
def E147 : List Ent := [(.iconst 0, 1, 0, 0), (.istore_n 2, 1, 0, 0), (.iload_n 2, 1, 0, 0), (.iload_n 1, 1, 0, 0), (.if_icmp .ge 13, 3, 0, 0), zE, zE, (.aload_n 0, 1, 0, 0), (.invokevirtual 96, 3, 146, 0), zE, zE, (.iinc 2 1, 3, 0, 0), zE, zE, (.goto (-12), 3, 0, 0), zE, zE, (.return_, 1, 0, 0)]
def E148 : List Ent := [(.iconst 0, 1, 0, 0), (.istore_n 1, 1, 0, 0), (.iconst 0, 1, 0, 0), (.istore_n 2, 1, 0, 0), (.iload_n 2, 1, 0, 0), (.aload_n 0, 1, 0, 0), (.getfield 71, 3, 5, 0), zE, zE, (.if_icmp .ge 18, 3, 0, 0), zE, zE, (.iload_n 1, 1, 0, 0), (.aload_n 0, 1, 0, 0), (.getfield 25, 3, 5, 6), zE, zE, (.iload_n 2, 1, 0, 0), (.iaload, 1, 0, 0), (.iadd, 1, 0, 0), (.istore_n 1, 1, 0, 0), (.iinc 2 1, 3, 0, 0), zE, zE, (.goto (-20), 3, 0, 0), zE, zE, (.iload_n 1, 1, 0, 0), (.ireturn, 1, 0, 0)]
def E149 : List Ent := [(.iconst 0, 1, 0, 0), (.istore_n 1, 1, 0, 0), (.iconst 0, 1, 0, 0), (.istore_n 2, 1, 0, 0), (.iload_n 2, 1, 0, 0), (.aload_n 0, 1, 0, 0), (.getfield 71, 3, 5, 0), zE, zE, (.if_icmp .ge 18, 3, 0, 0), zE, zE, (.iload_n 1, 1, 0, 0), (.aload_n 0, 1, 0, 0), (.getfield 28, 3, 5, 7), zE, zE, (.iload_n 2, 1, 0, 0), (.iaload, 1, 0, 0), (.iadd, 1, 0, 0), (.istore_n 1, 1, 0, 0), (.iinc 2 1, 3, 0, 0), zE, zE, (.goto (-20), 3, 0, 0), zE, zE, (.iload_n 1, 1, 0, 0), (.ireturn, 1, 0, 0)]
def E150 : List Ent := [(.aload_n 0, 1, 0, 0), (.iconst 0, 1, 0, 0), (.putfield 67, 3, 5, 10), zE, zE, (.iload_n 1, 1, 0, 0), (.iconst 0, 1, 0, 0), (.bipush 99, 2, 0, 0), zE, (.invokestatic 198, 3, 134, 0), zE, zE, (.iload_n 2, 1, 0, 0), (.iconst 1, 1, 0, 0), (.invokestatic 194, 3, 142, 0), zE, zE, (.istore_n 3, 1, 0, 0), (.iload_n 3, 1, 0, 0), (.ifCond .ge 9, 3, 0, 0), zE, zE, (.aload_n 0, 1, 0, 0), (.iload_n 3, 1, 0, 0), (.invokevirtual 106, 3, 135, 0), zE, zE, (.ireturn, 1, 0, 0), (.aload_n 0, 1, 0, 0), (.invokevirtual 159, 3, 143, 0), zE, zE, (.aload_n 0, 1, 0, 0), (.iload_n 1, 1, 0, 0), (.invokevirtual 99, 3, 147, 0), zE, zE, (.iload_n 2, 1, 0, 0), (.ifCond .ne 10, 3, 0, 0), zE, zE, (.aload_n 0, 1, 0, 0), (.invokevirtual 204, 3, 148, 0), zE, zE, (.goto 7, 3, 0, 0), zE, zE, (.aload_n 0, 1, 0, 0), (.invokevirtual 207, 3, 149, 0), zE, zE, (.istore 4, 2, 0, 0), zE, (.aload_n 0, 1, 0, 0), (.invokevirtual 165, 3, 140, 0), zE, zE, (.iload 4, 2, 0, 0), zE, (.ireturn, 1, 0, 0)]
def E151 : List Ent := [(.iconst 0, 1, 0, 0), (.istore_n 1, 1, 0, 0), (.iconst 0, 1, 0, 0), (.istore_n 2, 1, 0, 0), (.iload_n 2, 1, 0, 0), (.aload_n 0, 1, 0, 0), (.getfield 71, 3, 5, 0), zE, zE, (.if_icmp .ge 18, 3, 0, 0), zE, zE, (.iload_n 1, 1, 0, 0), (.aload_n 0, 1, 0, 0), (.getfield 22, 3, 5, 5), zE, zE, (.iload_n 2, 1, 0, 0), (.iaload, 1, 0, 0), (.iadd, 1, 0, 0), (.istore_n 1, 1, 0, 0), (.iinc 2 1, 3, 0, 0), zE, zE, (.goto (-20), 3, 0, 0), zE, zE, (.iload_n 1, 1, 0, 0), (.ireturn, 1, 0, 0)]
def E152 : List Ent := [(.iconst 0, 1, 0, 0), (.istore_n 1, 1, 0, 0), (.iconst 0, 1, 0, 0), (.istore_n 2, 1, 0, 0), (.iload_n 2, 1, 0, 0), (.aload_n 0, 1, 0, 0), (.getfield 71, 3, 5, 0), zE, zE, (.if_icmp .ge 18, 3, 0, 0), zE, zE, (.iload_n 1, 1, 0, 0), (.aload_n 0, 1, 0, 0), (.getfield 16, 3, 5, 3), zE, zE, (.iload_n 2, 1, 0, 0), (.iaload, 1, 0, 0), (.iadd, 1, 0, 0), (.istore_n 1, 1, 0, 0), (.iinc 2 1, 3, 0, 0), zE, zE, (.goto (-20), 3, 0, 0), zE, zE, (.iload_n 1, 1, 0, 0), (.ireturn, 1, 0, 0)]
def E153 : List Ent := [(.iconst 0, 1, 0, 0), (.istore_n 1, 1, 0, 0), (.iconst 0, 1, 0, 0), (.istore_n 2, 1, 0, 0), (.iload_n 2, 1, 0, 0), (.aload_n 0, 1, 0, 0), (.getfield 71, 3, 5, 0), zE, zE, (.if_icmp .ge 17, 3, 0, 0), zE, zE, (.iload_n 1, 1, 0, 0), (.aload_n 0, 1, 0, 0), (.iload_n 2, 1, 0, 0), (.invokevirtual 82, 3, 136, 0), zE, zE, (.iadd, 1, 0, 0), (.istore_n 1, 1, 0, 0), (.iinc 2 1, 3, 0, 0), zE, zE, (.goto (-19), 3, 0, 0), zE, zE, (.iload_n 1, 1, 0, 0), (.ireturn, 1, 0, 0)]
def E154 : List Ent := [(.aload_n 0, 1, 0, 0), (.iconst 0, 1, 0, 0), (.putfield 67, 3, 5, 10), zE, zE, (.iconst 0, 1, 0, 0), (.istore_n 1, 1, 0, 0), (.iconst 0, 1, 0, 0), (.istore_n 2, 1, 0, 0), (.iconst 0, 1, 0, 0), (.istore_n 3, 1, 0, 0), (.iload_n 3, 1, 0, 0), (.aload_n 0, 1, 0, 0), (.getfield 71, 3, 5, 0), zE, zE, (.if_icmp .ge 50, 3, 0, 0), zE, zE, (.aload_n 0, 1, 0, 0), (.iload_n 3, 1, 0, 0), (.invokevirtual 82, 3, 136, 0), zE, zE, (.istore 4, 2, 0, 0), zE, (.iload_n 3, 1, 0, 0), (.ifCond .eq 9, 3, 0, 0), zE, zE, (.iload 4, 2, 0, 0), zE, (.iload_n 1, 1, 0, 0), (.if_icmp .le 8, 3, 0, 0), zE, zE, (.iload 4, 2, 0, 0), zE, (.goto 4, 3, 0, 0), zE, zE, (.iload_n 1, 1, 0, 0), (.istore_n 1, 1, 0, 0), (.iload_n 3, 1, 0, 0), (.ifCond .eq 9, 3, 0, 0), zE, zE, (.iload 4, 2, 0, 0), zE, (.iload_n 2, 1, 0, 0), (.if_icmp .ge 8, 3, 0, 0), zE, zE, (.iload 4, 2, 0, 0), zE, (.goto 4, 3, 0, 0), zE, zE, (.iload_n 2, 1, 0, 0), (.istore_n 2, 1, 0, 0), (.iinc 3 1, 3, 0, 0), zE, zE, (.goto (-52), 3, 0, 0), zE, zE, (.iload_n 1, 1, 0, 0), (.iload_n 2, 1, 0, 0), (.isub, 1, 0, 0), (.ireturn, 1, 0, 0)]
def E155 : List Ent := [(.iload_n 1, 1, 0, 0), (.i2l, 1, 0, 0), (.lconst 0, 1, 0, 0), (.aload_n 0, 1, 0, 0), (.getfield 71, 3, 5, 0), zE, zE, (.iconst 1, 1, 0, 0), (.isub, 1, 0, 0), (.i2l, 1, 0, 0), (.invokestatic 74, 3, 141, 0), zE, zE, (.ireturn, 1, 0, 0)]
def E156 : List Ent := [(.aload_n 0, 1, 0, 0), (.iload_n 1, 1, 0, 0), (.invokevirtual 78, 3, 155, 0), zE, zE, (.ifCond .eq 20, 3, 0, 0), zE, zE, (.aload_n 0, 1, 0, 0), (.iload_n 2, 1, 0, 0), (.invokevirtual 78, 3, 155, 0), zE, zE, (.ifCond .eq 12, 3, 0, 0), zE, zE, (.iload_n 1, 1, 0, 0), (.iload_n 2, 1, 0, 0), (.if_icmp .eq 7, 3, 0, 0), zE, zE, (.iconst 1, 1, 0, 0), (.goto 4, 3, 0, 0), zE, zE, (.iconst 0, 1, 0, 0), (.ireturn, 1, 0, 0)]
def E157 : List Ent := [(.aload_n 0, 1, 0, 0), (.iconst 0, 1, 0, 0), (.putfield 67, 3, 5, 10), zE, zE, (.aload_n 0, 1, 0, 0), (.getfield 168, 3, 5, 29), zE, zE, (.ifCond .ne 10, 3, 0, 0), zE, zE, (.aload_n 0, 1, 0, 0), (.bipush (-3), 2, 0, 0), zE, (.invokevirtual 106, 3, 135, 0), zE, zE, (.ireturn, 1, 0, 0), (.aload_n 0, 1, 0, 0), (.dup, 1, 0, 0), (.getfield 168, 3, 5, 29), zE, zE, (.iconst 1, 1, 0, 0), (.isub, 1, 0, 0), (.putfield 168, 3, 5, 29), zE, zE, (.iconst 0, 1, 0, 0), (.istore_n 1, 1, 0, 0), (.iload_n 1, 1, 0, 0), (.bipush 50, 2, 0, 0), zE, (.if_icmp .ge 29, 3, 0, 0), zE, zE, (.aload_n 0, 1, 0, 0), (.getfield 61, 3, 5, 28), zE, zE, (.iload_n 1, 1, 0, 0), (.aload_n 0, 1, 0, 0), (.getfield 58, 3, 5, 27), zE, zE, (.bipush 50, 2, 0, 0), zE, (.aload_n 0, 1, 0, 0), (.getfield 168, 3, 5, 29), zE, zE, (.imul, 1, 0, 0), (.iload_n 1, 1, 0, 0), (.iadd, 1, 0, 0), (.iaload, 1, 0, 0), (.iastore, 1, 0, 0), (.iinc 1 1, 3, 0, 0), zE, zE, (.goto (-29), 3, 0, 0), zE, zE, (.aload_n 0, 1, 0, 0), (.aload_n 0, 1, 0, 0), (.getfield 61, 3, 5, 28), zE, zE, (.iconst 0, 1, 0, 0), (.invokevirtual 183, 3, 139, 0), zE, zE, (.aload_n 0, 1, 0, 0), (.getfield 168, 3, 5, 29), zE, zE, (.ireturn, 1, 0, 0)]
def E158 : List Ent := [(.aload_n 0, 1, 0, 0), (.iconst 0, 1, 0, 0), (.putfield 67, 3, 5, 10), zE, zE, (.aload_n 0, 1, 0, 0), (.iload_n 1, 1, 0, 0), (.invokevirtual 78, 3, 155, 0), zE, zE, (.ifCond .eq 13, 3, 0, 0), zE, zE, (.iload_n 2, 1, 0, 0), (.iconst 0, 1, 0, 0), (.bipush 99, 2, 0, 0), zE, (.invokestatic 198, 3, 134, 0), zE, zE, (.goto 4, 3, 0, 0), zE, zE, (.iconst (-1), 1, 0, 0), (.iload_n 3, 1, 0, 0), (.iconst 2, 1, 0, 0), (.invokestatic 194, 3, 142, 0), zE, zE, (.istore 4, 2, 0, 0), zE, (.iload 4, 2, 0, 0), zE, (.ifCond .ge 10, 3, 0, 0), zE, zE, (.aload_n 0, 1, 0, 0), (.iload 4, 2, 0, 0), zE, (.invokevirtual 106, 3, 135, 0), zE, zE, (.ireturn, 1, 0, 0), (.aload_n 0, 1, 0, 0), (.invokevirtual 159, 3, 143, 0), zE, zE, (.aload_n 0, 1, 0, 0), (.iload_n 2, 1, 0, 0), (.invokevirtual 99, 3, 147, 0), zE, zE, (.iload_n 3, 1, 0, 0), (.ifCond .ne 12, 3, 0, 0), zE, zE, (.aload_n 0, 1, 0, 0), (.getfield 22, 3, 5, 5), zE, zE, (.iload_n 1, 1, 0, 0), (.iaload, 1, 0, 0), (.goto 23, 3, 0, 0), zE, zE, (.iload_n 3, 1, 0, 0), (.iconst 1, 1, 0, 0), (.if_icmp .ne 12, 3, 0, 0), zE, zE, (.aload_n 0, 1, 0, 0), (.getfield 28, 3, 5, 7), zE, zE, (.iload_n 1, 1, 0, 0), (.iaload, 1, 0, 0), (.goto 9, 3, 0, 0), zE, zE, (.aload_n 0, 1, 0, 0), (.getfield 25, 3, 5, 6), zE, zE, (.iload_n 1, 1, 0, 0), (.iaload, 1, 0, 0), (.istore 5, 2, 0, 0), zE, (.aload_n 0, 1, 0, 0), (.invokevirtual 165, 3, 140, 0), zE, zE, (.iload 5, 2, 0, 0), zE, (.ireturn, 1, 0, 0)]
def E159 : List Ent := [(.aload_n 0, 1, 0, 0), (.iload_n 1, 1, 0, 0), (.invokevirtual 86, 3, 145, 0), zE, zE, (.istore_n 2, 1, 0, 0), (.aload_n 0, 1, 0, 0), (.getfield 22, 3, 5, 5), zE, zE, (.iload_n 1, 1, 0, 0), (.iaload, 1, 0, 0), (.iload_n 2, 1, 0, 0), (.iadd, 1, 0, 0), (.iconst 1, 1, 0, 0), (.isub, 1, 0, 0), (.iload_n 2, 1, 0, 0), (.idiv, 1, 0, 0), (.ireturn, 1, 0, 0)]
def E160 : List Ent := [(.aload_n 0, 1, 0, 0), (.getfield 16, 3, 5, 3), zE, zE, (.iload_n 1, 1, 0, 0), (.iaload, 1, 0, 0), (.istore 5, 2, 0, 0), zE, (.aload_n 0, 1, 0, 0), (.getfield 16, 3, 5, 3), zE, zE, (.iload_n 2, 1, 0, 0), (.iaload, 1, 0, 0), (.istore 6, 2, 0, 0), zE, (.aload_n 0, 1, 0, 0), (.getfield 16, 3, 5, 3), zE, zE, (.iload_n 1, 1, 0, 0), (.iload 5, 2, 0, 0), zE, (.iload_n 3, 1, 0, 0), (.isub, 1, 0, 0), (.iastore, 1, 0, 0), (.aload_n 0, 1, 0, 0), (.getfield 16, 3, 5, 3), zE, zE, (.iload_n 2, 1, 0, 0), (.sipush 999, 3, 0, 0), zE, zE, (.iload 6, 2, 0, 0), zE, (.iload_n 3, 1, 0, 0), (.iadd, 1, 0, 0), (.invokestatic 92, 3, 144, 0), zE, zE, (.iastore, 1, 0, 0), (.aload_n 0, 1, 0, 0), (.iload_n 1, 1, 0, 0), (.invokevirtual 210, 3, 159, 0), zE, zE, (.istore 7, 2, 0, 0), zE, (.aload_n 0, 1, 0, 0), (.iload_n 2, 1, 0, 0), (.invokevirtual 210, 3, 159, 0), zE, zE, (.istore 8, 2, 0, 0), zE, (.aload_n 0, 1, 0, 0), (.getfield 16, 3, 5, 3), zE, zE, (.iload_n 1, 1, 0, 0), (.iload 5, 2, 0, 0), zE, (.iastore, 1, 0, 0), (.aload_n 0, 1, 0, 0), (.getfield 16, 3, 5, 3), zE, zE, (.iload_n 2, 1, 0, 0), (.iload 6, 2, 0, 0), zE, (.iastore, 1, 0, 0), (.iload 4, 2, 0, 0), zE, (.ifCond .eq 11, 3, 0, 0), zE, zE, (.iload 7, 2, 0, 0), zE, (.iload 8, 2, 0, 0), zE, (.iadd, 1, 0, 0), (.goto 10, 3, 0, 0), zE, zE, (.iload 7, 2, 0, 0), zE, (.iload 8, 2, 0, 0), zE, (.invokestatic 92, 3, 144, 0), zE, zE, (.ireturn, 1, 0, 0)]
def E161 : List Ent := [(.aload_n 0, 1, 0, 0), (.iconst 0, 1, 0, 0), (.putfield 67, 3, 5, 10), zE, zE, (.aload_n 0, 1, 0, 0), (.iload_n 1, 1, 0, 0), (.invokevirtual 78, 3, 155, 0), zE, zE, (.ifCond .eq 7, 3, 0, 0), zE, zE, (.iconst 0, 1, 0, 0), (.goto 4, 3, 0, 0), zE, zE, (.iconst (-1), 1, 0, 0), (.iload_n 2, 1, 0, 0), (.iconst 1, 1, 0, 0), (.invokestatic 194, 3, 142, 0), zE, zE, (.istore_n 3, 1, 0, 0), (.iload_n 3, 1, 0, 0), (.ifCond .ge 9, 3, 0, 0), zE, zE, (.aload_n 0, 1, 0, 0), (.iload_n 3, 1, 0, 0), (.invokevirtual 106, 3, 135, 0), zE, zE, (.ireturn, 1, 0, 0), (.bipush (-9), 2, 0, 0), zE, (.istore 4, 2, 0, 0), zE, (.bipush (-9), 2, 0, 0), zE, (.istore 5, 2, 0, 0), zE, (.iconst 0, 1, 0, 0), (.istore 6, 2, 0, 0), zE, (.iload 6, 2, 0, 0), zE, (.aload_n 0, 1, 0, 0), (.getfield 71, 3, 5, 0), zE, zE, (.if_icmp .ge 68, 3, 0, 0), zE, zE, (.iload 6, 2, 0, 0), zE, (.iload_n 1, 1, 0, 0), (.if_icmp .ne 8, 3, 0, 0), zE, zE, (.bipush (-9), 2, 0, 0), zE, (.goto 17, 3, 0, 0), zE, zE, (.aload_n 0, 1, 0, 0), (.iload_n 1, 1, 0, 0), (.iload 6, 2, 0, 0), zE, (.aload_n 0, 1, 0, 0), (.getfield 16, 3, 5, 3), zE, zE, (.iload_n 1, 1, 0, 0), (.iaload, 1, 0, 0), (.iconst 1, 1, 0, 0), (.invokevirtual 221, 3, 160, 0), zE, zE, (.istore 7, 2, 0, 0), zE, (.iload 7, 2, 0, 0), zE, (.iload 5, 2, 0, 0), zE, (.if_icmp .le 8, 3, 0, 0), zE, zE, (.iload 6, 2, 0, 0), zE, (.goto 5, 3, 0, 0), zE, zE, (.iload 4, 2, 0, 0), zE, (.istore 4, 2, 0, 0), zE, (.iload 7, 2, 0, 0), zE, (.iload 5, 2, 0, 0), zE, (.if_icmp .le 8, 3, 0, 0), zE, zE, (.iload 7, 2, 0, 0), zE, (.goto 5, 3, 0, 0), zE, zE, (.iload 5, 2, 0, 0), zE, (.istore 5, 2, 0, 0), zE, (.iinc 6 1, 3, 0, 0), zE, zE, (.goto (-71), 3, 0, 0), zE, zE, (.iload_n 2, 1, 0, 0), (.ifCond .ne 8, 3, 0, 0), zE, zE, (.iload 4, 2, 0, 0), zE, (.goto 5, 3, 0, 0), zE, zE, (.iload 5, 2, 0, 0), zE, (.ireturn, 1, 0, 0)]
def E162 : List Ent := [(.aload_n 0, 1, 0, 0), (.iconst 0, 1, 0, 0), (.putfield 67, 3, 5, 10), zE, zE, (.aload_n 0, 1, 0, 0), (.iload_n 1, 1, 0, 0), (.invokevirtual 78, 3, 155, 0), zE, zE, (.ifCond .ne 12, 3, 0, 0), zE, zE, (.ldc 225, 2, 0, 1000000000), zE, (.aload_n 0, 1, 0, 0), (.iconst (-1), 1, 0, 0), (.invokevirtual 106, 3, 135, 0), zE, zE, (.isub, 1, 0, 0), (.ireturn, 1, 0, 0), (.aload_n 0, 1, 0, 0), (.iload_n 1, 1, 0, 0), (.invokevirtual 210, 3, 159, 0), zE, zE, (.istore_n 2, 1, 0, 0), (.aload_n 0, 1, 0, 0), (.getfield 16, 3, 5, 3), zE, zE, (.iload_n 1, 1, 0, 0), (.iaload, 1, 0, 0), (.istore_n 3, 1, 0, 0), (.aload_n 0, 1, 0, 0), (.getfield 16, 3, 5, 3), zE, zE, (.iload_n 1, 1, 0, 0), (.sipush 999, 3, 0, 0), zE, zE, (.iload_n 3, 1, 0, 0), (.bipush 10, 2, 0, 0), zE, (.iadd, 1, 0, 0), (.invokestatic 92, 3, 144, 0), zE, zE, (.iastore, 1, 0, 0), (.aload_n 0, 1, 0, 0), (.iload_n 1, 1, 0, 0), (.invokevirtual 210, 3, 159, 0), zE, zE, (.istore 4, 2, 0, 0), zE, (.aload_n 0, 1, 0, 0), (.getfield 16, 3, 5, 3), zE, zE, (.iload_n 1, 1, 0, 0), (.iload_n 3, 1, 0, 0), (.iastore, 1, 0, 0), (.iload_n 2, 1, 0, 0), (.iload 4, 2, 0, 0), zE, (.isub, 1, 0, 0), (.ireturn, 1, 0, 0)]
def E163 : List Ent := [(.aload_n 0, 1, 0, 0), (.iconst 0, 1, 0, 0), (.putfield 67, 3, 5, 10), zE, zE, (.aload_n 0, 1, 0, 0), (.iload_n 1, 1, 0, 0), (.iload_n 2, 1, 0, 0), (.invokevirtual 147, 3, 156, 0), zE, zE, (.ifCond .eq 7, 3, 0, 0), zE, zE, (.iconst 0, 1, 0, 0), (.goto 4, 3, 0, 0), zE, zE, (.iconst (-1), 1, 0, 0), (.iload_n 3, 1, 0, 0), (.iconst 1, 1, 0, 0), (.invokestatic 194, 3, 142, 0), zE, zE, (.istore 4, 2, 0, 0), zE, (.iload 4, 2, 0, 0), zE, (.ifCond .ge 10, 3, 0, 0), zE, zE, (.aload_n 0, 1, 0, 0), (.iload 4, 2, 0, 0), zE, (.invokevirtual 106, 3, 135, 0), zE, zE, (.ireturn, 1, 0, 0), (.iconst 0, 1, 0, 0), (.istore 5, 2, 0, 0), zE, (.iconst (-1), 1, 0, 0), (.istore 6, 2, 0, 0), zE, (.iconst 0, 1, 0, 0), (.istore 7, 2, 0, 0), zE, (.iload 7, 2, 0, 0), zE, (.aload_n 0, 1, 0, 0), (.getfield 16, 3, 5, 3), zE, zE, (.iload_n 1, 1, 0, 0), (.iaload, 1, 0, 0), (.if_icmp .gt 52, 3, 0, 0), zE, zE, (.aload_n 0, 1, 0, 0), (.iload_n 1, 1, 0, 0), (.iload_n 2, 1, 0, 0), (.iload 7, 2, 0, 0), zE, (.iconst 0, 1, 0, 0), (.invokevirtual 221, 3, 160, 0), zE, zE, (.istore 8, 2, 0, 0), zE, (.iload 8, 2, 0, 0), zE, (.iload 6, 2, 0, 0), zE, (.if_icmp .le 8, 3, 0, 0), zE, zE, (.iload 7, 2, 0, 0), zE, (.goto 5, 3, 0, 0), zE, zE, (.iload 5, 2, 0, 0), zE, (.istore 5, 2, 0, 0), zE, (.iload 8, 2, 0, 0), zE, (.iload 6, 2, 0, 0), zE, (.if_icmp .le 8, 3, 0, 0), zE, zE, (.iload 8, 2, 0, 0), zE, (.goto 5, 3, 0, 0), zE, zE, (.iload 6, 2, 0, 0), zE, (.istore 6, 2, 0, 0), zE, (.iinc 7 1, 3, 0, 0), zE, zE, (.goto (-57), 3, 0, 0), zE, zE, (.iload_n 3, 1, 0, 0), (.ifCond .ne 8, 3, 0, 0), zE, zE, (.iload 5, 2, 0, 0), zE, (.goto 5, 3, 0, 0), zE, zE, (.iload 6, 2, 0, 0), zE, (.ireturn, 1, 0, 0)]
def E164 : List Ent := [(.aload_n 0, 1, 0, 0), (.iconst 0, 1, 0, 0), (.putfield 67, 3, 5, 10), zE, zE, (.aload_n 0, 1, 0, 0), (.getfield 232, 3, 5, 31), zE, zE, (.istore_n 1, 1, 0, 0), (.aload_n 0, 1, 0, 0), (.iconst 0, 1, 0, 0), (.putfield 232, 3, 5, 31), zE, zE, (.iload_n 1, 1, 0, 0), (.ireturn, 1, 0, 0)]
def E165 : List Ent := [(.aload_n 0, 1, 0, 0), (.getfield 7, 3, 5, 1), zE, zE, (.aload_n 0, 1, 0, 0), (.getfield 71, 3, 5, 0), zE, zE, (.iload_n 1, 1, 0, 0), (.iastore, 1, 0, 0), (.aload_n 0, 1, 0, 0), (.getfield 13, 3, 5, 2), zE, zE, (.aload_n 0, 1, 0, 0), (.getfield 71, 3, 5, 0), zE, zE, (.iload_n 2, 1, 0, 0), (.iastore, 1, 0, 0), (.aload_n 0, 1, 0, 0), (.getfield 16, 3, 5, 3), zE, zE, (.aload_n 0, 1, 0, 0), (.getfield 71, 3, 5, 0), zE, zE, (.iload_n 3, 1, 0, 0), (.iastore, 1, 0, 0), (.aload_n 0, 1, 0, 0), (.getfield 19, 3, 5, 4), zE, zE, (.aload_n 0, 1, 0, 0), (.getfield 71, 3, 5, 0), zE, zE, (.iconst 0, 1, 0, 0), (.iastore, 1, 0, 0), (.aload_n 0, 1, 0, 0), (.getfield 22, 3, 5, 5), zE, zE, (.aload_n 0, 1, 0, 0), (.getfield 71, 3, 5, 0), zE, zE, (.bipush 50, 2, 0, 0), zE, (.iastore, 1, 0, 0), (.aload_n 0, 1, 0, 0), (.getfield 25, 3, 5, 6), zE, zE, (.aload_n 0, 1, 0, 0), (.getfield 71, 3, 5, 0), zE, zE, (.iconst 0, 1, 0, 0), (.iastore, 1, 0, 0), (.aload_n 0, 1, 0, 0), (.getfield 28, 3, 5, 7), zE, zE, (.aload_n 0, 1, 0, 0), (.getfield 71, 3, 5, 0), zE, zE, (.iconst 0, 1, 0, 0), (.iastore, 1, 0, 0), (.aload_n 0, 1, 0, 0), (.getfield 31, 3, 5, 8), zE, zE, (.aload_n 0, 1, 0, 0), (.getfield 71, 3, 5, 0), zE, zE, (.bipush (-9), 2, 0, 0), zE, (.iastore, 1, 0, 0), (.aload_n 0, 1, 0, 0), (.dup, 1, 0, 0), (.getfield 71, 3, 5, 0), zE, zE, (.iconst 1, 1, 0, 0), (.iadd, 1, 0, 0), (.putfield 71, 3, 5, 0), zE, zE, (.return_, 1, 0, 0)]
def E166 : List Ent := [(.aload_n 0, 1, 0, 0), (.getfield 22, 3, 5, 5), zE, zE, (.iload_n 1, 1, 0, 0), (.iload_n 2, 1, 0, 0), (.iastore, 1, 0, 0), (.aload_n 0, 1, 0, 0), (.getfield 25, 3, 5, 6), zE, zE, (.iload_n 1, 1, 0, 0), (.iload_n 2, 1, 0, 0), (.ifCond .ne 7, 3, 0, 0), zE, zE, (.iconst 0, 1, 0, 0), (.goto 9, 3, 0, 0), zE, zE, (.aload_n 0, 1, 0, 0), (.getfield 25, 3, 5, 6), zE, zE, (.iload_n 1, 1, 0, 0), (.iaload, 1, 0, 0), (.iastore, 1, 0, 0), (.return_, 1, 0, 0)]
def E167 : List Ent := [(.aload_n 0, 1, 0, 0), (.getfield 7, 3, 5, 1), zE, zE, (.iload_n 1, 1, 0, 0), (.iaload, 1, 0, 0), (.tableswitch 38 1 5 #[34, 38, 36, 34, 34], 34, 0, 0), zE, zE, zE, zE, zE, zE, zE, zE, zE, zE, zE, zE, zE, zE, zE, zE, zE, zE, zE, zE, zE, zE, zE, zE, zE, zE, zE, zE, zE, zE, zE, zE, zE, (.iconst 1, 1, 0, 0), (.ireturn, 1, 0, 0), (.iconst 0, 1, 0, 0), (.ireturn, 1, 0, 0), (.aload_n 0, 1, 0, 0), (.getfield 13, 3, 5, 2), zE, zE, (.iload_n 1, 1, 0, 0), (.iaload, 1, 0, 0), (.iconst 4, 1, 0, 0), (.if_icmp .lt 7, 3, 0, 0), zE, zE, (.iconst 1, 1, 0, 0), (.goto 4, 3, 0, 0), zE, zE, (.iconst 0, 1, 0, 0), (.ireturn, 1, 0, 0)]
def E168 : List Ent := [(.iconst 0, 1, 0, 0), (.istore_n 2, 1, 0, 0), (.iload_n 2, 1, 0, 0), (.aload_n 0, 1, 0, 0), (.getfield 71, 3, 5, 0), zE, zE, (.if_icmp .ge 71, 3, 0, 0), zE, zE, (.aload_n 0, 1, 0, 0), (.getfield 31, 3, 5, 8), zE, zE, (.iload_n 2, 1, 0, 0), (.iaload, 1, 0, 0), (.istore_n 3, 1, 0, 0), (.aload_n 0, 1, 0, 0), (.getfield 37, 3, 5, 12), zE, zE, (.iload_n 2, 1, 0, 0), (.iconst 0, 1, 0, 0), (.iastore, 1, 0, 0), (.iload_n 3, 1, 0, 0), (.ifCond .lt 47, 3, 0, 0), zE, zE, (.aload_n 0, 1, 0, 0), (.getfield 37, 3, 5, 12), zE, zE, (.iload_n 2, 1, 0, 0), (.aload_n 0, 1, 0, 0), (.getfield 16, 3, 5, 3), zE, zE, (.iload_n 2, 1, 0, 0), (.iaload, 1, 0, 0), (.iastore, 1, 0, 0), (.aload_n 0, 1, 0, 0), (.getfield 16, 3, 5, 3), zE, zE, (.iload_n 2, 1, 0, 0), (.iconst 0, 1, 0, 0), (.iastore, 1, 0, 0), (.aload_n 0, 1, 0, 0), (.getfield 16, 3, 5, 3), zE, zE, (.iload_n 3, 1, 0, 0), (.sipush 999, 3, 0, 0), zE, zE, (.aload_n 0, 1, 0, 0), (.getfield 16, 3, 5, 3), zE, zE, (.iload_n 3, 1, 0, 0), (.iaload, 1, 0, 0), (.aload_n 0, 1, 0, 0), (.getfield 37, 3, 5, 12), zE, zE, (.iload_n 2, 1, 0, 0), (.iaload, 1, 0, 0), (.iadd, 1, 0, 0), (.invokestatic 92, 3, 144, 0), zE, zE, (.iastore, 1, 0, 0), (.iinc 2 1, 3, 0, 0), zE, zE, (.goto (-73), 3, 0, 0), zE, zE, (.iconst 0, 1, 0, 0), (.istore_n 2, 1, 0, 0), (.iload_n 2, 1, 0, 0), (.aload_n 0, 1, 0, 0), (.getfield 71, 3, 5, 0), zE, zE, (.if_icmp .ge 29, 3, 0, 0), zE, zE, (.aload_n 0, 1, 0, 0), (.getfield 25, 3, 5, 6), zE, zE, (.iload_n 2, 1, 0, 0), (.aload_n 0, 1, 0, 0), (.getfield 22, 3, 5, 5), zE, zE, (.iload_n 2, 1, 0, 0), (.iaload, 1, 0, 0), (.ifCond .le 7, 3, 0, 0), zE, zE, (.iconst 1, 1, 0, 0), (.goto 4, 3, 0, 0), zE, zE, (.iconst 0, 1, 0, 0), (.iastore, 1, 0, 0), (.iinc 2 1, 3, 0, 0), zE, zE, (.goto (-31), 3, 0, 0), zE, zE, (.aload_n 0, 1, 0, 0), (.iload_n 1, 1, 0, 0), (.invokevirtual 99, 3, 147, 0), zE, zE, (.aload_n 0, 1, 0, 0), (.getfield 71, 3, 5, 0), zE, zE, (.iconst 1, 1, 0, 0), (.isub, 1, 0, 0), (.istore_n 2, 1, 0, 0), (.iload_n 2, 1, 0, 0), (.ifCond .lt 92, 3, 0, 0), zE, zE, (.aload_n 0, 1, 0, 0), (.getfield 31, 3, 5, 8), zE, zE, (.iload_n 2, 1, 0, 0), (.iaload, 1, 0, 0), (.istore_n 3, 1, 0, 0), (.iload_n 3, 1, 0, 0), (.ifCond .lt 75, 3, 0, 0), zE, zE, (.aload_n 0, 1, 0, 0), (.iload_n 3, 1, 0, 0), (.invokevirtual 103, 3, 167, 0), zE, zE, (.ifCond .eq 12, 3, 0, 0), zE, zE, (.aload_n 0, 1, 0, 0), (.getfield 37, 3, 5, 12), zE, zE, (.iload_n 2, 1, 0, 0), (.iaload, 1, 0, 0), (.goto 11, 3, 0, 0), zE, zE, (.aload_n 0, 1, 0, 0), (.getfield 37, 3, 5, 12), zE, zE, (.iload_n 2, 1, 0, 0), (.iaload, 1, 0, 0), (.iconst 2, 1, 0, 0), (.idiv, 1, 0, 0), (.istore 4, 2, 0, 0), zE, (.iload 4, 2, 0, 0), zE, (.aload_n 0, 1, 0, 0), (.getfield 16, 3, 5, 3), zE, zE, (.iload_n 3, 1, 0, 0), (.iaload, 1, 0, 0), (.invokestatic 92, 3, 144, 0), zE, zE, (.istore 4, 2, 0, 0), zE, (.aload_n 0, 1, 0, 0), (.getfield 16, 3, 5, 3), zE, zE, (.iload_n 3, 1, 0, 0), (.dup2, 1, 0, 0), (.iaload, 1, 0, 0), (.iload 4, 2, 0, 0), zE, (.isub, 1, 0, 0), (.iastore, 1, 0, 0), (.aload_n 0, 1, 0, 0), (.getfield 16, 3, 5, 3), zE, zE, (.iload_n 2, 1, 0, 0), (.sipush 999, 3, 0, 0), zE, zE, (.aload_n 0, 1, 0, 0), (.getfield 16, 3, 5, 3), zE, zE, (.iload_n 2, 1, 0, 0), (.iaload, 1, 0, 0), (.iload 4, 2, 0, 0), zE, (.iadd, 1, 0, 0), (.invokestatic 92, 3, 144, 0), zE, zE, (.iastore, 1, 0, 0), (.iinc 2 (-1), 3, 0, 0), zE, zE, (.goto (-90), 3, 0, 0), zE, zE, (.iconst 0, 1, 0, 0), (.istore_n 2, 1, 0, 0), (.iload_n 2, 1, 0, 0), (.aload_n 0, 1, 0, 0), (.getfield 71, 3, 5, 0), zE, zE, (.if_icmp .ge 16, 3, 0, 0), zE, zE, (.aload_n 0, 1, 0, 0), (.getfield 25, 3, 5, 6), zE, zE, (.iload_n 2, 1, 0, 0), (.iconst 0, 1, 0, 0), (.iastore, 1, 0, 0), (.iinc 2 1, 3, 0, 0), zE, zE, (.goto (-18), 3, 0, 0), zE, zE, (.return_, 1, 0, 0)]
def E169 : List Ent := [(.aload_n 0, 1, 0, 0), (.getfield 49, 3, 5, 20), zE, zE, (.iconst 3, 1, 0, 0), (.iload_n 1, 1, 0, 0), (.imul, 1, 0, 0), (.iaload, 1, 0, 0), (.istore_n 2, 1, 0, 0), (.aload_n 0, 1, 0, 0), (.getfield 49, 3, 5, 20), zE, zE, (.iconst 3, 1, 0, 0), (.iload_n 1, 1, 0, 0), (.imul, 1, 0, 0), (.iconst 1, 1, 0, 0), (.iadd, 1, 0, 0), (.iaload, 1, 0, 0), (.istore_n 3, 1, 0, 0), (.iconst 1, 1, 0, 0), (.istore 4, 2, 0, 0), zE, (.aload_n 0, 1, 0, 0), (.getfield 46, 3, 5, 19), zE, zE, (.iload_n 1, 1, 0, 0), (.iaload, 1, 0, 0), (.lookupswitch 224 #[(99, 119), (104, 97), (108, 178), (112, 51), (116, 140)], 51, 0, 0), zE, zE, zE, zE, zE, zE, zE, zE, zE, zE, zE, zE, zE, zE, zE, zE, zE, zE, zE, zE, zE, zE, zE, zE, zE, zE, zE, zE, zE, zE, zE, zE, zE, zE, zE, zE, zE, zE, zE, zE, zE, zE, zE, zE, zE, zE, zE, zE, zE, zE, (.iload_n 2, 1, 0, 0), (.bipush 6, 2, 0, 0), zE, (.if_icmp .ge 16, 3, 0, 0), zE, zE, (.aload_n 0, 1, 0, 0), (.getfield 71, 3, 5, 0), zE, zE, (.bipush 6, 2, 0, 0), zE, (.if_icmp .ge 7, 3, 0, 0), zE, zE, (.iconst 1, 1, 0, 0), (.goto 4, 3, 0, 0), zE, zE, (.iconst 0, 1, 0, 0), (.istore 4, 2, 0, 0), zE, (.iload 4, 2, 0, 0), zE, (.ifCond .eq 19, 3, 0, 0), zE, zE, (.aload_n 0, 1, 0, 0), (.iload_n 2, 1, 0, 0), (.iload_n 3, 1, 0, 0), (.aload_n 0, 1, 0, 0), (.getfield 49, 3, 5, 20), zE, zE, (.iconst 3, 1, 0, 0), (.iload_n 1, 1, 0, 0), (.imul, 1, 0, 0), (.iconst 2, 1, 0, 0), (.iadd, 1, 0, 0), (.iaload, 1, 0, 0), (.invokevirtual 140, 3, 165, 0), zE, zE, (.iload 4, 2, 0, 0), zE, (.ireturn, 1, 0, 0), (.aload_n 0, 1, 0, 0), (.iload_n 2, 1, 0, 0), (.invokevirtual 78, 3, 155, 0), zE, zE, (.istore 4, 2, 0, 0), zE, (.iload 4, 2, 0, 0), zE, (.ifCond .eq 10, 3, 0, 0), zE, zE, (.aload_n 0, 1, 0, 0), (.getfield 19, 3, 5, 4), zE, zE, (.iload_n 2, 1, 0, 0), (.iload_n 3, 1, 0, 0), (.iastore, 1, 0, 0), (.iload 4, 2, 0, 0), zE, (.ireturn, 1, 0, 0), (.aload_n 0, 1, 0, 0), (.iload_n 2, 1, 0, 0), (.invokevirtual 78, 3, 155, 0), zE, zE, (.istore 4, 2, 0, 0), zE, (.iload 4, 2, 0, 0), zE, (.ifCond .eq 9, 3, 0, 0), zE, zE, (.aload_n 0, 1, 0, 0), (.iload_n 2, 1, 0, 0), (.iload_n 3, 1, 0, 0), (.invokevirtual 144, 3, 166, 0), zE, zE, (.iload 4, 2, 0, 0), zE, (.ireturn, 1, 0, 0), (.aload_n 0, 1, 0, 0), (.iload_n 2, 1, 0, 0), (.iload_n 3, 1, 0, 0), (.invokevirtual 147, 3, 156, 0), zE, zE, (.istore 4, 2, 0, 0), zE, (.iload 4, 2, 0, 0), zE, (.ifCond .eq 25, 3, 0, 0), zE, zE, (.aload_n 0, 1, 0, 0), (.getfield 31, 3, 5, 8), zE, zE, (.iload_n 2, 1, 0, 0), (.aload_n 0, 1, 0, 0), (.getfield 31, 3, 5, 8), zE, zE, (.iload_n 2, 1, 0, 0), (.iaload, 1, 0, 0), (.iload_n 3, 1, 0, 0), (.if_icmp .ne 8, 3, 0, 0), zE, zE, (.bipush (-9), 2, 0, 0), zE, (.goto 4, 3, 0, 0), zE, zE, (.iload_n 3, 1, 0, 0), (.iastore, 1, 0, 0), (.iload 4, 2, 0, 0), zE, (.ireturn, 1, 0, 0), (.aload_n 0, 1, 0, 0), (.iload_n 2, 1, 0, 0), (.invokevirtual 78, 3, 155, 0), zE, zE, (.ifCond .eq 16, 3, 0, 0), zE, zE, (.aload_n 0, 1, 0, 0), (.getfield 22, 3, 5, 5), zE, zE, (.iload_n 2, 1, 0, 0), (.iaload, 1, 0, 0), (.ifCond .le 7, 3, 0, 0), zE, zE, (.iconst 1, 1, 0, 0), (.goto 4, 3, 0, 0), zE, zE, (.iconst 0, 1, 0, 0), (.istore 4, 2, 0, 0), zE, (.iload 4, 2, 0, 0), zE, (.ifCond .eq 17, 3, 0, 0), zE, zE, (.aload_n 0, 1, 0, 0), (.getfield 25, 3, 5, 6), zE, zE, (.iload_n 2, 1, 0, 0), (.iconst 1, 1, 0, 0), (.aload_n 0, 1, 0, 0), (.getfield 25, 3, 5, 6), zE, zE, (.iload_n 2, 1, 0, 0), (.iaload, 1, 0, 0), (.isub, 1, 0, 0), (.iastore, 1, 0, 0), (.iload 4, 2, 0, 0), zE, (.ireturn, 1, 0, 0), (.iload_n 2, 1, 0, 0), (.i2l, 1, 0, 0), (.lconst 1, 1, 0, 0), (.ldc2_w 151, 3, 0, 12), zE, zE, (.invokestatic 74, 3, 141, 0), zE, zE, (.ifCond .eq 19, 3, 0, 0), zE, zE, (.aload_n 0, 1, 0, 0), (.getfield 89, 3, 5, 9), zE, zE, (.iload_n 2, 1, 0, 0), (.iadd, 1, 0, 0), (.sipush 999, 3, 0, 0), zE, zE, (.if_icmp .gt 7, 3, 0, 0), zE, zE, (.iconst 1, 1, 0, 0), (.goto 4, 3, 0, 0), zE, zE, (.iconst 0, 1, 0, 0), (.istore 4, 2, 0, 0), zE, (.iload 4, 2, 0, 0), zE, (.ifCond .eq 8, 3, 0, 0), zE, zE, (.aload_n 0, 1, 0, 0), (.iload_n 2, 1, 0, 0), (.invokevirtual 153, 3, 168, 0), zE, zE, (.iload 4, 2, 0, 0), zE, (.ireturn, 1, 0, 0)]
def E170 : List Ent := [(.iconst 0, 1, 0, 0), (.istore_n 1, 1, 0, 0), (.iconst 0, 1, 0, 0), (.istore_n 2, 1, 0, 0), (.iload_n 2, 1, 0, 0), (.aload_n 0, 1, 0, 0), (.getfield 71, 3, 5, 0), zE, zE, (.if_icmp .ge 20, 3, 0, 0), zE, zE, (.iload_n 1, 1, 0, 0), (.aload_n 0, 1, 0, 0), (.getfield 25, 3, 5, 6), zE, zE, (.iload_n 2, 1, 0, 0), (.iaload, 1, 0, 0), (.iload_n 2, 1, 0, 0), (.ishl, 1, 0, 0), (.ior, 1, 0, 0), (.istore_n 1, 1, 0, 0), (.iinc 2 1, 3, 0, 0), zE, zE, (.goto (-22), 3, 0, 0), zE, zE, (.iload_n 1, 1, 0, 0), (.ireturn, 1, 0, 0)]
def E171 : List Ent := [(.aload_n 0, 1, 0, 0), (.iconst 0, 1, 0, 0), (.putfield 67, 3, 5, 10), zE, zE, (.iload_n 1, 1, 0, 0), (.tableswitch 95 0 8 #[50, 55, 60, 65, 70, 75, 80, 85, 90], 50, 0, 0), zE, zE, zE, zE, zE, zE, zE, zE, zE, zE, zE, zE, zE, zE, zE, zE, zE, zE, zE, zE, zE, zE, zE, zE, zE, zE, zE, zE, zE, zE, zE, zE, zE, zE, zE, zE, zE, zE, zE, zE, zE, zE, zE, zE, zE, zE, zE, zE, zE, (.aload_n 0, 1, 0, 0), (.getfield 71, 3, 5, 0), zE, zE, (.ireturn, 1, 0, 0), (.aload_n 0, 1, 0, 0), (.getfield 89, 3, 5, 9), zE, zE, (.ireturn, 1, 0, 0), (.aload_n 0, 1, 0, 0), (.invokevirtual 270, 3, 170, 0), zE, zE, (.ireturn, 1, 0, 0), (.aload_n 0, 1, 0, 0), (.invokevirtual 226, 3, 152, 0), zE, zE, (.ireturn, 1, 0, 0), (.aload_n 0, 1, 0, 0), (.invokevirtual 255, 3, 151, 0), zE, zE, (.ireturn, 1, 0, 0), (.aload_n 0, 1, 0, 0), (.invokevirtual 207, 3, 149, 0), zE, zE, (.ireturn, 1, 0, 0), (.aload_n 0, 1, 0, 0), (.getfield 109, 3, 5, 14), zE, zE, (.ireturn, 1, 0, 0), (.aload_n 0, 1, 0, 0), (.getfield 232, 3, 5, 31), zE, zE, (.ireturn, 1, 0, 0), (.aload_n 0, 1, 0, 0), (.getfield 168, 3, 5, 29), zE, zE, (.ireturn, 1, 0, 0), (.iload_n 1, 1, 0, 0), (.i2l, 1, 0, 0), (.ldc2_w 273, 3, 0, 11), zE, zE, (.ldc2_w 275, 3, 0, 16), zE, zE, (.invokestatic 74, 3, 141, 0), zE, zE, (.ifCond .eq 15, 3, 0, 0), zE, zE, (.aload_n 0, 1, 0, 0), (.getfield 34, 3, 5, 11), zE, zE, (.iload_n 1, 1, 0, 0), (.bipush 10, 2, 0, 0), zE, (.isub, 1, 0, 0), (.iaload, 1, 0, 0), (.goto 5, 3, 0, 0), zE, zE, (.bipush (-9), 2, 0, 0), zE, (.ireturn, 1, 0, 0)]
def E172 : List Ent := [(.bipush (-9), 2, 0, 0), zE, (.istore_n 1, 1, 0, 0), (.aload_n 0, 1, 0, 0), (.invokevirtual 159, 3, 143, 0), zE, zE, (.iconst 0, 1, 0, 0), (.istore_n 2, 1, 0, 0), (.iload_n 2, 1, 0, 0), (.bipush 99, 2, 0, 0), zE, (.if_icmp .gt 31, 3, 0, 0), zE, zE, (.iload_n 1, 1, 0, 0), (.ifCond .ge 27, 3, 0, 0), zE, zE, (.aload_n 0, 1, 0, 0), (.invokevirtual 204, 3, 148, 0), zE, zE, (.ifCond .ne 7, 3, 0, 0), zE, zE, (.iload_n 2, 1, 0, 0), (.goto 5, 3, 0, 0), zE, zE, (.bipush (-9), 2, 0, 0), zE, (.istore_n 1, 1, 0, 0), (.aload_n 0, 1, 0, 0), (.invokevirtual 96, 3, 146, 0), zE, zE, (.iinc 2 1, 3, 0, 0), zE, zE, (.goto (-31), 3, 0, 0), zE, zE, (.aload_n 0, 1, 0, 0), (.invokevirtual 165, 3, 140, 0), zE, zE, (.iload_n 1, 1, 0, 0), (.ireturn, 1, 0, 0)]
def E173 : List Ent := [(.lload_n 0, 1, 0, 0), (.lstore 4, 2, 0, 0), zE, (.lload_n 2, 1, 0, 0), (.lstore 6, 2, 0, 0), zE, (.lload 6, 2, 0, 0), zE, (.lconst 0, 1, 0, 0), (.lcmp, 1, 0, 0), (.ifCond .eq 21, 3, 0, 0), zE, zE, (.lload 4, 2, 0, 0), zE, (.lload 6, 2, 0, 0), zE, (.lrem, 1, 0, 0), (.lstore 8, 2, 0, 0), zE, (.lload 6, 2, 0, 0), zE, (.lstore 4, 2, 0, 0), zE, (.lload 8, 2, 0, 0), zE, (.lstore 6, 2, 0, 0), zE, (.goto (-22), 3, 0, 0), zE, zE, (.lload 4, 2, 0, 0), zE, (.lreturn, 1, 0, 0)]
def E174 : List Ent := [(.iload_n 0, 1, 0, 0), (.iload_n 1, 1, 0, 0), (.ishr, 1, 0, 0), (.iconst 1, 1, 0, 0), (.iand, 1, 0, 0), (.iconst 1, 1, 0, 0), (.if_icmp .ne 7, 3, 0, 0), zE, zE, (.iconst 1, 1, 0, 0), (.goto 4, 3, 0, 0), zE, zE, (.iconst 0, 1, 0, 0), (.ireturn, 1, 0, 0)]
def E175 : List Ent := [(.lload_n 0, 1, 0, 0), (.lconst 0, 1, 0, 0), (.lcmp, 1, 0, 0), (.ifCond .ne 7, 3, 0, 0), zE, zE, (.iload 4, 2, 0, 0), zE, (.i2l, 1, 0, 0), (.lreturn, 1, 0, 0), (.lload_n 0, 1, 0, 0), (.lload_n 2, 1, 0, 0), (.invokestatic 242, 3, 173, 0), zE, zE, (.lstore 5, 2, 0, 0), zE, (.iload 4, 2, 0, 0), zE, (.ifCond .ne 10, 3, 0, 0), zE, zE, (.lload_n 0, 1, 0, 0), (.lload 5, 2, 0, 0), zE, (.ldiv, 1, 0, 0), (.goto 7, 3, 0, 0), zE, zE, (.lload_n 2, 1, 0, 0), (.lload 5, 2, 0, 0), zE, (.ldiv, 1, 0, 0), (.lreturn, 1, 0, 0)]
def E176 : List Ent := [(.aload_n 0, 1, 0, 0), (.iconst 0, 1, 0, 0), (.putfield 67, 3, 5, 10), zE, zE, (.iconst 0, 1, 0, 0), (.istore 5, 2, 0, 0), zE, (.aload_n 0, 1, 0, 0), (.iload_n 1, 1, 0, 0), (.invokevirtual 78, 3, 155, 0), zE, zE, (.ifCond .ne 9, 3, 0, 0), zE, zE, (.iconst (-1), 1, 0, 0), (.istore 5, 2, 0, 0), zE, (.goto 35, 3, 0, 0), zE, zE, (.iload_n 2, 1, 0, 0), (.ifCond .lt 8, 3, 0, 0), zE, zE, (.iload_n 3, 1, 0, 0), (.iconst 2, 1, 0, 0), (.if_icmp .ge 10, 3, 0, 0), zE, zE, (.bipush (-4), 2, 0, 0), zE, (.istore 5, 2, 0, 0), zE, (.goto 19, 3, 0, 0), zE, zE, (.iload_n 2, 1, 0, 0), (.bipush 8, 2, 0, 0), zE, (.if_icmp .gt 9, 3, 0, 0), zE, zE, (.iload_n 3, 1, 0, 0), (.bipush 20, 2, 0, 0), zE, (.if_icmp .le 7, 3, 0, 0), zE, zE, (.bipush (-6), 2, 0, 0), zE, (.istore 5, 2, 0, 0), zE, (.iload 5, 2, 0, 0), zE, (.iload 4, 2, 0, 0), zE, (.iconst 1, 1, 0, 0), (.invokestatic 194, 3, 142, 0), zE, zE, (.istore 5, 2, 0, 0), zE, (.iload 5, 2, 0, 0), zE, (.ifCond .ge 15, 3, 0, 0), zE, zE, (.ldc2_w 246, 3, 0, 4000000000000000000), zE, zE, (.aload_n 0, 1, 0, 0), (.iload 5, 2, 0, 0), zE, (.invokevirtual 106, 3, 135, 0), zE, zE, (.i2l, 1, 0, 0), (.lsub, 1, 0, 0), (.lreturn, 1, 0, 0), (.lconst 0, 1, 0, 0), (.lstore 6, 2, 0, 0), zE, (.lconst 1, 1, 0, 0), (.lstore 8, 2, 0, 0), zE, (.iconst 0, 1, 0, 0), (.istore 10, 2, 0, 0), zE, (.iload 10, 2, 0, 0), zE, (.iload_n 2, 1, 0, 0), (.if_icmp .ge 16, 3, 0, 0), zE, zE, (.lload 8, 2, 0, 0), zE, (.iload_n 3, 1, 0, 0), (.i2l, 1, 0, 0), (.lmul, 1, 0, 0), (.lstore 8, 2, 0, 0), zE, (.iinc 10 1, 3, 0, 0), zE, zE, (.goto (-16), 3, 0, 0), zE, zE, (.aload_n 0, 1, 0, 0), (.iload_n 1, 1, 0, 0), (.invokevirtual 86, 3, 145, 0), zE, zE, (.istore 10, 2, 0, 0), zE, (.iconst 0, 1, 0, 0), (.istore 11, 2, 0, 0), zE, (.iload 11, 2, 0, 0), zE, (.iconst 1, 1, 0, 0), (.iload_n 2, 1, 0, 0), (.ishl, 1, 0, 0), (.if_icmp .ge 98, 3, 0, 0), zE, zE, (.lconst 1, 1, 0, 0), (.lstore 12, 2, 0, 0), zE, (.aload_n 0, 1, 0, 0), (.getfield 22, 3, 5, 5), zE, zE, (.iload_n 1, 1, 0, 0), (.iaload, 1, 0, 0), (.istore 14, 2, 0, 0), zE, (.iconst 0, 1, 0, 0), (.istore 15, 2, 0, 0), zE, (.iload 15, 2, 0, 0), zE, (.iload_n 2, 1, 0, 0), (.if_icmp .ge 56, 3, 0, 0), zE, zE, (.lload 12, 2, 0, 0), zE, (.iload 11, 2, 0, 0), zE, (.iload 15, 2, 0, 0), zE, (.invokestatic 248, 3, 174, 0), zE, zE, (.ifCond .eq 7, 3, 0, 0), zE, zE, (.lconst 1, 1, 0, 0), (.goto 7, 3, 0, 0), zE, zE, (.iload_n 3, 1, 0, 0), (.iconst 1, 1, 0, 0), (.isub, 1, 0, 0), (.i2l, 1, 0, 0), (.lmul, 1, 0, 0), (.lstore 12, 2, 0, 0), zE, (.iload 14, 2, 0, 0), zE, (.iload 11, 2, 0, 0), zE, (.iload 15, 2, 0, 0), zE, (.invokestatic 248, 3, 174, 0), zE, zE, (.ifCond .eq 10, 3, 0, 0), zE, zE, (.iload 10, 2, 0, 0), zE, (.iconst 2, 1, 0, 0), (.iadd, 1, 0, 0), (.goto 5, 3, 0, 0), zE, zE, (.iload 10, 2, 0, 0), zE, (.isub, 1, 0, 0), (.istore 14, 2, 0, 0), zE, (.iinc 15 1, 3, 0, 0), zE, zE, (.goto (-56), 3, 0, 0), zE, zE, (.lload 6, 2, 0, 0), zE, (.iload 14, 2, 0, 0), zE, (.ifCond .le 8, 3, 0, 0), zE, zE, (.lload 12, 2, 0, 0), zE, (.goto 4, 3, 0, 0), zE, zE, (.lconst 0, 1, 0, 0), (.ladd, 1, 0, 0), (.lstore 6, 2, 0, 0), zE, (.iinc 11 1, 3, 0, 0), zE, zE, (.goto (-100), 3, 0, 0), zE, zE, (.lload 6, 2, 0, 0), zE, (.lload 8, 2, 0, 0), zE, (.iload 4, 2, 0, 0), zE, (.invokestatic 251, 3, 175, 0), zE, zE, (.lreturn, 1, 0, 0)]
def E177 : List Ent := [(.aload_n 0, 1, 0, 0), (.aload_n 0, 1, 0, 0), (.getfield 261, 3, 5, 32), zE, zE, (.ldc_w 264, 3, 0, 1103515245), zE, zE, (.imul, 1, 0, 0), (.sipush 12345, 3, 0, 0), zE, zE, (.iadd, 1, 0, 0), (.putfield 261, 3, 5, 32), zE, zE, (.aload_n 0, 1, 0, 0), (.getfield 261, 3, 5, 32), zE, zE, (.ldc_w 265, 3, 0, 2147483647), zE, zE, (.iand, 1, 0, 0), (.ldc_w 266, 3, 0, 65536), zE, zE, (.idiv, 1, 0, 0), (.iload_n 1, 1, 0, 0), (.irem, 1, 0, 0), (.ireturn, 1, 0, 0)]
def E178 : List Ent := [(.aload_n 0, 1, 0, 0), (.iconst 0, 1, 0, 0), (.putfield 67, 3, 5, 10), zE, zE, (.iload_n 1, 1, 0, 0), (.ifCond .ge 10, 3, 0, 0), zE, zE, (.aload_n 0, 1, 0, 0), (.bipush (-4), 2, 0, 0), zE, (.invokevirtual 106, 3, 135, 0), zE, zE, (.ireturn, 1, 0, 0), (.iload_n 1, 1, 0, 0), (.sipush 255, 3, 0, 0), zE, zE, (.if_icmp .gt 12, 3, 0, 0), zE, zE, (.aload_n 0, 1, 0, 0), (.getfield 109, 3, 5, 14), zE, zE, (.bipush 96, 2, 0, 0), zE, (.if_icmp .ne 10, 3, 0, 0), zE, zE, (.aload_n 0, 1, 0, 0), (.bipush (-6), 2, 0, 0), zE, (.invokevirtual 106, 3, 135, 0), zE, zE, (.ireturn, 1, 0, 0), (.aload_n 0, 1, 0, 0), (.getfield 40, 3, 5, 13), zE, zE, (.aload_n 0, 1, 0, 0), (.getfield 109, 3, 5, 14), zE, zE, (.iload_n 1, 1, 0, 0), (.iastore, 1, 0, 0), (.aload_n 0, 1, 0, 0), (.dup, 1, 0, 0), (.getfield 109, 3, 5, 14), zE, zE, (.iconst 1, 1, 0, 0), (.iadd, 1, 0, 0), (.putfield 109, 3, 5, 14), zE, zE, (.aload_n 0, 1, 0, 0), (.getfield 109, 3, 5, 14), zE, zE, (.ireturn, 1, 0, 0)]
def E179 : List Ent := [(.aload_n 0, 1, 0, 0), (.iconst 0, 1, 0, 0), (.putfield 67, 3, 5, 10), zE, zE, (.iload_n 1, 1, 0, 0), (.iconst 1, 1, 0, 0), (.bipush 12, 2, 0, 0), zE, (.invokestatic 198, 3, 134, 0), zE, zE, (.ifCond .ge 15, 3, 0, 0), zE, zE, (.aload_n 0, 1, 0, 0), (.iload_n 1, 1, 0, 0), (.iconst 1, 1, 0, 0), (.bipush 12, 2, 0, 0), zE, (.invokestatic 198, 3, 134, 0), zE, zE, (.invokevirtual 106, 3, 135, 0), zE, zE, (.ireturn, 1, 0, 0), (.bipush (-9), 2, 0, 0), zE, (.istore_n 2, 1, 0, 0), (.sipush (-1000), 3, 0, 0), zE, zE, (.istore_n 3, 1, 0, 0), (.aload_n 0, 1, 0, 0), (.invokevirtual 159, 3, 143, 0), zE, zE, (.iconst 0, 1, 0, 0), (.istore 4, 2, 0, 0), zE, (.iload 4, 2, 0, 0), zE, (.aload_n 0, 1, 0, 0), (.getfield 71, 3, 5, 0), zE, zE, (.if_icmp .ge 83, 3, 0, 0), zE, zE, (.aload_n 0, 1, 0, 0), (.iload_n 1, 1, 0, 0), (.invokevirtual 153, 3, 168, 0), zE, zE, (.aload_n 0, 1, 0, 0), (.getfield 28, 3, 5, 7), zE, zE, (.iload 4, 2, 0, 0), zE, (.iaload, 1, 0, 0), (.istore 5, 2, 0, 0), zE, (.aload_n 0, 1, 0, 0), (.invokevirtual 165, 3, 140, 0), zE, zE, (.aload_n 0, 1, 0, 0), (.getfield 22, 3, 5, 5), zE, zE, (.iload 4, 2, 0, 0), zE, (.bipush 99, 2, 0, 0), zE, (.iastore, 1, 0, 0), (.aload_n 0, 1, 0, 0), (.iload_n 1, 1, 0, 0), (.invokevirtual 153, 3, 168, 0), zE, zE, (.aload_n 0, 1, 0, 0), (.getfield 28, 3, 5, 7), zE, zE, (.iload 4, 2, 0, 0), zE, (.iaload, 1, 0, 0), (.iload 5, 2, 0, 0), zE, (.isub, 1, 0, 0), (.istore 6, 2, 0, 0), zE, (.aload_n 0, 1, 0, 0), (.invokevirtual 165, 3, 140, 0), zE, zE, (.iload 6, 2, 0, 0), zE, (.iload_n 3, 1, 0, 0), (.if_icmp .le 8, 3, 0, 0), zE, zE, (.iload 4, 2, 0, 0), zE, (.goto 4, 3, 0, 0), zE, zE, (.iload_n 2, 1, 0, 0), (.istore_n 2, 1, 0, 0), (.iload 6, 2, 0, 0), zE, (.iload_n 3, 1, 0, 0), (.if_icmp .le 8, 3, 0, 0), zE, zE, (.iload 6, 2, 0, 0), zE, (.goto 4, 3, 0, 0), zE, zE, (.iload_n 3, 1, 0, 0), (.istore_n 3, 1, 0, 0), (.iinc 4 1, 3, 0, 0), zE, zE, (.goto (-86), 3, 0, 0), zE, zE, (.iload_n 2, 1, 0, 0), (.ireturn, 1, 0, 0)]
def E180 : List Ent := [(.aload_n 0, 1, 0, 0), (.iconst 0, 1, 0, 0), (.putfield 67, 3, 5, 10), zE, zE, (.aload_n 0, 1, 0, 0), (.iload_n 1, 1, 0, 0), (.iload_n 2, 1, 0, 0), (.invokevirtual 147, 3, 156, 0), zE, zE, (.ifCond .eq 13, 3, 0, 0), zE, zE, (.iload_n 3, 1, 0, 0), (.iconst 1, 1, 0, 0), (.bipush 99, 2, 0, 0), zE, (.invokestatic 198, 3, 134, 0), zE, zE, (.goto 4, 3, 0, 0), zE, zE, (.iconst (-1), 1, 0, 0), (.istore 4, 2, 0, 0), zE, (.iload 4, 2, 0, 0), zE, (.ifCond .ge 10, 3, 0, 0), zE, zE, (.aload_n 0, 1, 0, 0), (.iload 4, 2, 0, 0), zE, (.invokevirtual 106, 3, 135, 0), zE, zE, (.ireturn, 1, 0, 0), (.aload_n 0, 1, 0, 0), (.getfield 16, 3, 5, 3), zE, zE, (.iload_n 1, 1, 0, 0), (.iaload, 1, 0, 0), (.istore 5, 2, 0, 0), zE, (.bipush (-9), 2, 0, 0), zE, (.istore 6, 2, 0, 0), zE, (.iload 5, 2, 0, 0), zE, (.istore 7, 2, 0, 0), zE, (.iload 7, 2, 0, 0), zE, (.ifCond .lt 38, 3, 0, 0), zE, zE, (.aload_n 0, 1, 0, 0), (.getfield 16, 3, 5, 3), zE, zE, (.iload_n 1, 1, 0, 0), (.iload 5, 2, 0, 0), zE, (.iload 7, 2, 0, 0), zE, (.isub, 1, 0, 0), (.iastore, 1, 0, 0), (.aload_n 0, 1, 0, 0), (.iload_n 1, 1, 0, 0), (.invokevirtual 210, 3, 159, 0), zE, zE, (.iload_n 3, 1, 0, 0), (.if_icmp .lt 8, 3, 0, 0), zE, zE, (.iload 7, 2, 0, 0), zE, (.goto 5, 3, 0, 0), zE, zE, (.iload 6, 2, 0, 0), zE, (.istore 6, 2, 0, 0), zE, (.iinc 7 (-1), 3, 0, 0), zE, zE, (.goto (-37), 3, 0, 0), zE, zE, (.aload_n 0, 1, 0, 0), (.getfield 16, 3, 5, 3), zE, zE, (.iload_n 1, 1, 0, 0), (.iload 5, 2, 0, 0), zE, (.iastore, 1, 0, 0), (.iload 6, 2, 0, 0), zE, (.ireturn, 1, 0, 0)]
def E181 : List Ent := [(.aload_n 0, 1, 0, 0), (.getfield 168, 3, 5, 29), zE, zE, (.bipush 8, 2, 0, 0), zE, (.if_icmp .ne 44, 3, 0, 0), zE, zE, (.bipush 50, 2, 0, 0), zE, (.istore_n 1, 1, 0, 0), (.iload_n 1, 1, 0, 0), (.sipush 400, 3, 0, 0), zE, zE, (.if_icmp .ge 24, 3, 0, 0), zE, zE, (.aload_n 0, 1, 0, 0), (.getfield 58, 3, 5, 27), zE, zE, (.iload_n 1, 1, 0, 0), (.bipush 50, 2, 0, 0), zE, (.isub, 1, 0, 0), (.aload_n 0, 1, 0, 0), (.getfield 58, 3, 5, 27), zE, zE, (.iload_n 1, 1, 0, 0), (.iaload, 1, 0, 0), (.iastore, 1, 0, 0), (.iinc 1 1, 3, 0, 0), zE, zE, (.goto (-25), 3, 0, 0), zE, zE, (.aload_n 0, 1, 0, 0), (.dup, 1, 0, 0), (.getfield 168, 3, 5, 29), zE, zE, (.iconst 1, 1, 0, 0), (.isub, 1, 0, 0), (.putfield 168, 3, 5, 29), zE, zE, (.aload_n 0, 1, 0, 0), (.aload_n 0, 1, 0, 0), (.getfield 61, 3, 5, 28), zE, zE, (.iconst 1, 1, 0, 0), (.invokevirtual 183, 3, 139, 0), zE, zE, (.iconst 0, 1, 0, 0), (.istore_n 1, 1, 0, 0), (.iload_n 1, 1, 0, 0), (.bipush 50, 2, 0, 0), zE, (.if_icmp .ge 29, 3, 0, 0), zE, zE, (.aload_n 0, 1, 0, 0), (.getfield 58, 3, 5, 27), zE, zE, (.bipush 50, 2, 0, 0), zE, (.aload_n 0, 1, 0, 0), (.getfield 168, 3, 5, 29), zE, zE, (.imul, 1, 0, 0), (.iload_n 1, 1, 0, 0), (.iadd, 1, 0, 0), (.aload_n 0, 1, 0, 0), (.getfield 61, 3, 5, 28), zE, zE, (.iload_n 1, 1, 0, 0), (.iaload, 1, 0, 0), (.iastore, 1, 0, 0), (.iinc 1 1, 3, 0, 0), zE, zE, (.goto (-29), 3, 0, 0), zE, zE, (.aload_n 0, 1, 0, 0), (.dup, 1, 0, 0), (.getfield 168, 3, 5, 29), zE, zE, (.iconst 1, 1, 0, 0), (.iadd, 1, 0, 0), (.putfield 168, 3, 5, 29), zE, zE, (.return_, 1, 0, 0)]
def E182 : List Ent := [(.aload_n 0, 1, 0, 0), (.iconst 0, 1, 0, 0), (.putfield 67, 3, 5, 10), zE, zE, (.iconst 0, 1, 0, 0), (.istore 4, 2, 0, 0), zE, (.aload_n 0, 1, 0, 0), (.iload_n 1, 1, 0, 0), (.iload_n 2, 1, 0, 0), (.invokevirtual 147, 3, 156, 0), zE, zE, (.ifCond .ne 9, 3, 0, 0), zE, zE, (.iconst (-1), 1, 0, 0), (.istore 4, 2, 0, 0), zE, (.goto 42, 3, 0, 0), zE, zE, (.iload_n 3, 1, 0, 0), (.ifCond .ge 10, 3, 0, 0), zE, zE, (.bipush (-4), 2, 0, 0), zE, (.istore 4, 2, 0, 0), zE, (.goto 31, 3, 0, 0), zE, zE, (.iload_n 3, 1, 0, 0), (.aload_n 0, 1, 0, 0), (.getfield 16, 3, 5, 3), zE, zE, (.iload_n 1, 1, 0, 0), (.iaload, 1, 0, 0), (.if_icmp .gt 17, 3, 0, 0), zE, zE, (.aload_n 0, 1, 0, 0), (.getfield 16, 3, 5, 3), zE, zE, (.iload_n 2, 1, 0, 0), (.iaload, 1, 0, 0), (.iload_n 3, 1, 0, 0), (.iadd, 1, 0, 0), (.sipush 999, 3, 0, 0), zE, zE, (.if_icmp .le 7, 3, 0, 0), zE, zE, (.bipush (-6), 2, 0, 0), zE, (.istore 4, 2, 0, 0), zE, (.iload 4, 2, 0, 0), zE, (.ifCond .ge 10, 3, 0, 0), zE, zE, (.aload_n 0, 1, 0, 0), (.iload 4, 2, 0, 0), zE, (.invokevirtual 106, 3, 135, 0), zE, zE, (.ireturn, 1, 0, 0), (.aload_n 0, 1, 0, 0), (.invokevirtual 201, 3, 181, 0), zE, zE, (.aload_n 0, 1, 0, 0), (.getfield 16, 3, 5, 3), zE, zE, (.iload_n 1, 1, 0, 0), (.dup2, 1, 0, 0), (.iaload, 1, 0, 0), (.iload_n 3, 1, 0, 0), (.isub, 1, 0, 0), (.iastore, 1, 0, 0), (.aload_n 0, 1, 0, 0), (.getfield 16, 3, 5, 3), zE, zE, (.iload_n 2, 1, 0, 0), (.dup2, 1, 0, 0), (.iaload, 1, 0, 0), (.iload_n 3, 1, 0, 0), (.iadd, 1, 0, 0), (.iastore, 1, 0, 0), (.aload_n 0, 1, 0, 0), (.getfield 16, 3, 5, 3), zE, zE, (.iload_n 2, 1, 0, 0), (.iaload, 1, 0, 0), (.ireturn, 1, 0, 0)]
def E183 : List Ent := [(.aload_n 0, 1, 0, 0), (.getfield 16, 3, 5, 3), zE, zE, (.iload_n 1, 1, 0, 0), (.iaload, 1, 0, 0), (.istore 6, 2, 0, 0), zE, (.aload_n 0, 1, 0, 0), (.getfield 16, 3, 5, 3), zE, zE, (.iload_n 2, 1, 0, 0), (.iaload, 1, 0, 0), (.istore 7, 2, 0, 0), zE, (.iload_n 3, 1, 0, 0), (.iconst 1, 1, 0, 0), (.if_icmp .ne 12, 3, 0, 0), zE, zE, (.iload 6, 2, 0, 0), zE, (.ifCond .le 7, 3, 0, 0), zE, zE, (.iconst 1, 1, 0, 0), (.goto 4, 3, 0, 0), zE, zE, (.iconst 0, 1, 0, 0), (.istore 8, 2, 0, 0), zE, (.iload 4, 2, 0, 0), zE, (.iconst 1, 1, 0, 0), (.if_icmp .ne 12, 3, 0, 0), zE, zE, (.iload 7, 2, 0, 0), zE, (.ifCond .le 7, 3, 0, 0), zE, zE, (.iconst 1, 1, 0, 0), (.goto 4, 3, 0, 0), zE, zE, (.iconst 0, 1, 0, 0), (.istore 9, 2, 0, 0), zE, (.aload_n 0, 1, 0, 0), (.getfield 16, 3, 5, 3), zE, zE, (.iload_n 1, 1, 0, 0), (.iload 6, 2, 0, 0), zE, (.iload 8, 2, 0, 0), zE, (.isub, 1, 0, 0), (.iload 9, 2, 0, 0), zE, (.iadd, 1, 0, 0), (.sipush 999, 3, 0, 0), zE, zE, (.if_icmp .le 9, 3, 0, 0), zE, zE, (.sipush 999, 3, 0, 0), zE, zE, (.goto 11, 3, 0, 0), zE, zE, (.iload 6, 2, 0, 0), zE, (.iload 8, 2, 0, 0), zE, (.isub, 1, 0, 0), (.iload 9, 2, 0, 0), zE, (.iadd, 1, 0, 0), (.iastore, 1, 0, 0), (.aload_n 0, 1, 0, 0), (.getfield 16, 3, 5, 3), zE, zE, (.iload_n 2, 1, 0, 0), (.iload 7, 2, 0, 0), zE, (.iload 8, 2, 0, 0), zE, (.iadd, 1, 0, 0), (.iload 9, 2, 0, 0), zE, (.isub, 1, 0, 0), (.sipush 999, 3, 0, 0), zE, zE, (.if_icmp .le 9, 3, 0, 0), zE, zE, (.sipush 999, 3, 0, 0), zE, zE, (.goto 11, 3, 0, 0), zE, zE, (.iload 7, 2, 0, 0), zE, (.iload 8, 2, 0, 0), zE, (.iadd, 1, 0, 0), (.iload 9, 2, 0, 0), zE, (.isub, 1, 0, 0), (.iastore, 1, 0, 0), (.aload_n 0, 1, 0, 0), (.iload 5, 2, 0, 0), zE, (.ifCond .ne 7, 3, 0, 0), zE, zE, (.iload_n 1, 1, 0, 0), (.goto 4, 3, 0, 0), zE, zE, (.iload_n 2, 1, 0, 0), (.invokevirtual 210, 3, 159, 0), zE, zE, (.istore 10, 2, 0, 0), zE, (.aload_n 0, 1, 0, 0), (.getfield 16, 3, 5, 3), zE, zE, (.iload_n 1, 1, 0, 0), (.iload 6, 2, 0, 0), zE, (.iastore, 1, 0, 0), (.aload_n 0, 1, 0, 0), (.getfield 16, 3, 5, 3), zE, zE, (.iload_n 2, 1, 0, 0), (.iload 7, 2, 0, 0), zE, (.iastore, 1, 0, 0), (.iload 10, 2, 0, 0), zE, (.ireturn, 1, 0, 0)]
def E184 : List Ent := [(.aload_n 0, 1, 0, 0), (.iconst 0, 1, 0, 0), (.putfield 67, 3, 5, 10), zE, zE, (.aload_n 0, 1, 0, 0), (.iload_n 1, 1, 0, 0), (.iload_n 2, 1, 0, 0), (.invokevirtual 147, 3, 156, 0), zE, zE, (.ifCond .ne 9, 3, 0, 0), zE, zE, (.aload_n 0, 1, 0, 0), (.iconst (-1), 1, 0, 0), (.invokevirtual 106, 3, 135, 0), zE, zE, (.ireturn, 1, 0, 0), (.iconst 0, 1, 0, 0), (.istore_n 3, 1, 0, 0), (.iload_n 3, 1, 0, 0), (.iconst 4, 1, 0, 0), (.if_icmp .ge 82, 3, 0, 0), zE, zE, (.iload_n 3, 1, 0, 0), (.iconst 2, 1, 0, 0), (.idiv, 1, 0, 0), (.istore 4, 2, 0, 0), zE, (.iload_n 3, 1, 0, 0), (.iconst 2, 1, 0, 0), (.irem, 1, 0, 0), (.istore 5, 2, 0, 0), zE, (.aload_n 0, 1, 0, 0), (.iload_n 1, 1, 0, 0), (.iload_n 2, 1, 0, 0), (.iconst 1, 1, 0, 0), (.iload 4, 2, 0, 0), zE, (.isub, 1, 0, 0), (.iload 5, 2, 0, 0), zE, (.iconst 0, 1, 0, 0), (.invokevirtual 238, 3, 183, 0), zE, zE, (.aload_n 0, 1, 0, 0), (.iload_n 1, 1, 0, 0), (.iload_n 2, 1, 0, 0), (.iload 4, 2, 0, 0), zE, (.iload 5, 2, 0, 0), zE, (.iconst 0, 1, 0, 0), (.invokevirtual 238, 3, 183, 0), zE, zE, (.if_icmp .gt 39, 3, 0, 0), zE, zE, (.aload_n 0, 1, 0, 0), (.iload_n 1, 1, 0, 0), (.iload_n 2, 1, 0, 0), (.iload 4, 2, 0, 0), zE, (.iconst 1, 1, 0, 0), (.iload 5, 2, 0, 0), zE, (.isub, 1, 0, 0), (.iconst 1, 1, 0, 0), (.invokevirtual 238, 3, 183, 0), zE, zE, (.aload_n 0, 1, 0, 0), (.iload_n 1, 1, 0, 0), (.iload_n 2, 1, 0, 0), (.iload 4, 2, 0, 0), zE, (.iload 5, 2, 0, 0), zE, (.iconst 1, 1, 0, 0), (.invokevirtual 238, 3, 183, 0), zE, zE, (.if_icmp .gt 12, 3, 0, 0), zE, zE, (.bipush 10, 2, 0, 0), zE, (.iload 4, 2, 0, 0), zE, (.imul, 1, 0, 0), (.iload 5, 2, 0, 0), zE, (.iadd, 1, 0, 0), (.ireturn, 1, 0, 0), (.iinc 3 1, 3, 0, 0), zE, zE, (.goto (-81), 3, 0, 0), zE, zE, (.bipush (-9), 2, 0, 0), zE, (.ireturn, 1, 0, 0)]
def E185 : List Ent := [(.aload_n 0, 1, 0, 0), (.getfield 112, 3, 5, 15), zE, zE, (.aload_n 0, 1, 0, 0), (.getfield 109, 3, 5, 14), zE, zE, (.if_icmp .ge 15, 3, 0, 0), zE, zE, (.aload_n 0, 1, 0, 0), (.getfield 40, 3, 5, 13), zE, zE, (.aload_n 0, 1, 0, 0), (.getfield 112, 3, 5, 15), zE, zE, (.iaload, 1, 0, 0), (.goto 4, 3, 0, 0), zE, zE, (.iconst (-1), 1, 0, 0), (.ireturn, 1, 0, 0)]
def E186 : List Ent := [(.aload_n 0, 1, 0, 0), (.iconst 0, 1, 0, 0), (.putfield 67, 3, 5, 10), zE, zE, (.aload_n 0, 1, 0, 0), (.iload_n 1, 1, 0, 0), (.invokevirtual 78, 3, 155, 0), zE, zE, (.ifCond .ne 9, 3, 0, 0), zE, zE, (.aload_n 0, 1, 0, 0), (.iconst (-1), 1, 0, 0), (.invokevirtual 106, 3, 135, 0), zE, zE, (.ireturn, 1, 0, 0), (.aload_n 0, 1, 0, 0), (.getfield 16, 3, 5, 3), zE, zE, (.iload_n 1, 1, 0, 0), (.iaload, 1, 0, 0), (.istore_n 2, 1, 0, 0), (.aload_n 0, 1, 0, 0), (.getfield 19, 3, 5, 4), zE, zE, (.iload_n 1, 1, 0, 0), (.iaload, 1, 0, 0), (.istore_n 3, 1, 0, 0), (.iconst 0, 1, 0, 0), (.istore 4, 2, 0, 0), zE, (.iconst (-1), 1, 0, 0), (.istore 5, 2, 0, 0), zE, (.iconst 0, 1, 0, 0), (.istore 6, 2, 0, 0), zE, (.iload 6, 2, 0, 0), zE, (.iload_n 2, 1, 0, 0), (.if_icmp .gt 87, 3, 0, 0), zE, zE, (.iload_n 3, 1, 0, 0), (.iload 6, 2, 0, 0), zE, (.iadd, 1, 0, 0), (.bipush 99, 2, 0, 0), zE, (.if_icmp .gt 78, 3, 0, 0), zE, zE, (.aload_n 0, 1, 0, 0), (.getfield 16, 3, 5, 3), zE, zE, (.iload_n 1, 1, 0, 0), (.iload_n 2, 1, 0, 0), (.iload 6, 2, 0, 0), zE, (.isub, 1, 0, 0), (.iastore, 1, 0, 0), (.aload_n 0, 1, 0, 0), (.getfield 19, 3, 5, 4), zE, zE, (.iload_n 1, 1, 0, 0), (.iload_n 3, 1, 0, 0), (.iload 6, 2, 0, 0), zE, (.iadd, 1, 0, 0), (.iastore, 1, 0, 0), (.aload_n 0, 1, 0, 0), (.iload_n 1, 1, 0, 0), (.invokevirtual 82, 3, 136, 0), zE, zE, (.istore 7, 2, 0, 0), zE, (.iload 5, 2, 0, 0), zE, (.ifCond .lt 10, 3, 0, 0), zE, zE, (.iload 7, 2, 0, 0), zE, (.iload 5, 2, 0, 0), zE, (.if_icmp .ge 8, 3, 0, 0), zE, zE, (.iload 6, 2, 0, 0), zE, (.goto 5, 3, 0, 0), zE, zE, (.iload 4, 2, 0, 0), zE, (.istore 4, 2, 0, 0), zE, (.iload 5, 2, 0, 0), zE, (.ifCond .lt 10, 3, 0, 0), zE, zE, (.iload 7, 2, 0, 0), zE, (.iload 5, 2, 0, 0), zE, (.if_icmp .ge 8, 3, 0, 0), zE, zE, (.iload 7, 2, 0, 0), zE, (.goto 5, 3, 0, 0), zE, zE, (.iload 5, 2, 0, 0), zE, (.istore 5, 2, 0, 0), zE, (.iinc 6 1, 3, 0, 0), zE, zE, (.goto (-87), 3, 0, 0), zE, zE, (.aload_n 0, 1, 0, 0), (.getfield 16, 3, 5, 3), zE, zE, (.iload_n 1, 1, 0, 0), (.iload_n 2, 1, 0, 0), (.iastore, 1, 0, 0), (.aload_n 0, 1, 0, 0), (.getfield 19, 3, 5, 4), zE, zE, (.iload_n 1, 1, 0, 0), (.iload_n 3, 1, 0, 0), (.iastore, 1, 0, 0), (.iload 4, 2, 0, 0), zE, (.ireturn, 1, 0, 0)]
def E187 : List Ent := [(.aload_n 0, 1, 0, 0), (.iconst 0, 1, 0, 0), (.putfield 67, 3, 5, 10), zE, zE, (.iload_n 1, 1, 0, 0), (.iconst 1, 1, 0, 0), (.bipush 99, 2, 0, 0), zE, (.invokestatic 198, 3, 134, 0), zE, zE, (.istore_n 2, 1, 0, 0), (.iload_n 2, 1, 0, 0), (.ifCond .ne 20, 3, 0, 0), zE, zE, (.aload_n 0, 1, 0, 0), (.getfield 89, 3, 5, 9), zE, zE, (.iload_n 1, 1, 0, 0), (.iadd, 1, 0, 0), (.sipush 999, 3, 0, 0), zE, zE, (.if_icmp .le 8, 3, 0, 0), zE, zE, (.bipush (-6), 2, 0, 0), zE, (.goto 4, 3, 0, 0), zE, zE, (.iload_n 2, 1, 0, 0), (.istore_n 2, 1, 0, 0), (.iload_n 2, 1, 0, 0), (.ifCond .ge 9, 3, 0, 0), zE, zE, (.aload_n 0, 1, 0, 0), (.iload_n 2, 1, 0, 0), (.invokevirtual 106, 3, 135, 0), zE, zE, (.ireturn, 1, 0, 0), (.aload_n 0, 1, 0, 0), (.invokevirtual 201, 3, 181, 0), zE, zE, (.aload_n 0, 1, 0, 0), (.iload_n 1, 1, 0, 0), (.invokevirtual 99, 3, 147, 0), zE, zE, (.aload_n 0, 1, 0, 0), (.invokevirtual 204, 3, 148, 0), zE, zE, (.ireturn, 1, 0, 0)]
def E188 : List Ent := [(.aload_n 0, 1, 0, 0), (.iconst 0, 1, 0, 0), (.putfield 67, 3, 5, 10), zE, zE, (.aload_n 0, 1, 0, 0), (.iconst 1, 1, 0, 0), (.putfield 187, 3, 5, 23), zE, zE, (.aload_n 0, 1, 0, 0), (.aload_n 0, 1, 0, 0), (.getfield 55, 3, 5, 22), zE, zE, (.iconst 1, 1, 0, 0), (.invokevirtual 183, 3, 139, 0), zE, zE, (.aload_n 0, 1, 0, 0), (.getfield 89, 3, 5, 9), zE, zE, (.ireturn, 1, 0, 0)]
def E189 : List Ent := [(.aload_n 0, 1, 0, 0), (.invokespecial 1, 3, 0, 1), zE, zE, (.aload_n 0, 1, 0, 0), (.bipush 6, 2, 0, 0), zE, (.newarray .int, 2, 0, 0), zE, (.putfield 7, 3, 5, 1), zE, zE, (.aload_n 0, 1, 0, 0), (.bipush 6, 2, 0, 0), zE, (.newarray .int, 2, 0, 0), zE, (.putfield 13, 3, 5, 2), zE, zE, (.aload_n 0, 1, 0, 0), (.bipush 6, 2, 0, 0), zE, (.newarray .int, 2, 0, 0), zE, (.putfield 16, 3, 5, 3), zE, zE, (.aload_n 0, 1, 0, 0), (.bipush 6, 2, 0, 0), zE, (.newarray .int, 2, 0, 0), zE, (.putfield 19, 3, 5, 4), zE, zE, (.aload_n 0, 1, 0, 0), (.bipush 6, 2, 0, 0), zE, (.newarray .int, 2, 0, 0), zE, (.putfield 22, 3, 5, 5), zE, zE, (.aload_n 0, 1, 0, 0), (.bipush 6, 2, 0, 0), zE, (.newarray .int, 2, 0, 0), zE, (.putfield 25, 3, 5, 6), zE, zE, (.aload_n 0, 1, 0, 0), (.bipush 6, 2, 0, 0), zE, (.newarray .int, 2, 0, 0), zE, (.putfield 28, 3, 5, 7), zE, zE, (.aload_n 0, 1, 0, 0), (.bipush 6, 2, 0, 0), zE, (.newarray .int, 2, 0, 0), zE, (.putfield 31, 3, 5, 8), zE, zE, (.aload_n 0, 1, 0, 0), (.bipush 7, 2, 0, 0), zE, (.newarray .int, 2, 0, 0), zE, (.putfield 34, 3, 5, 11), zE, zE, (.aload_n 0, 1, 0, 0), (.bipush 6, 2, 0, 0), zE, (.newarray .int, 2, 0, 0), zE, (.putfield 37, 3, 5, 12), zE, zE, (.aload_n 0, 1, 0, 0), (.bipush 96, 2, 0, 0), zE, (.newarray .int, 2, 0, 0), zE, (.putfield 40, 3, 5, 13), zE, zE, (.aload_n 0, 1, 0, 0), (.bipush 49, 2, 0, 0), zE, (.newarray .int, 2, 0, 0), zE, (.putfield 43, 3, 5, 18), zE, zE, (.aload_n 0, 1, 0, 0), (.bipush 49, 2, 0, 0), zE, (.newarray .int, 2, 0, 0), zE, (.putfield 46, 3, 5, 19), zE, zE, (.aload_n 0, 1, 0, 0), (.sipush 147, 3, 0, 0), zE, zE, (.newarray .int, 2, 0, 0), zE, (.putfield 49, 3, 5, 20), zE, zE, (.aload_n 0, 1, 0, 0), (.bipush 50, 2, 0, 0), zE, (.newarray .int, 2, 0, 0), zE, (.putfield 52, 3, 5, 21), zE, zE, (.aload_n 0, 1, 0, 0), (.bipush 50, 2, 0, 0), zE, (.newarray .int, 2, 0, 0), zE, (.putfield 55, 3, 5, 22), zE, zE, (.aload_n 0, 1, 0, 0), (.sipush 400, 3, 0, 0), zE, zE, (.newarray .int, 2, 0, 0), zE, (.putfield 58, 3, 5, 27), zE, zE, (.aload_n 0, 1, 0, 0), (.bipush 50, 2, 0, 0), zE, (.newarray .int, 2, 0, 0), zE, (.putfield 61, 3, 5, 28), zE, zE, (.aload_n 0, 1, 0, 0), (.bipush 12, 2, 0, 0), zE, (.newarray .int, 2, 0, 0), zE, (.putfield 64, 3, 5, 30), zE, zE, (.aload_n 0, 1, 0, 0), (.iconst 0, 1, 0, 0), (.putfield 67, 3, 5, 10), zE, zE, (.return_, 1, 0, 0)]
def E190 : List Ent := [(.iload_n 0, 1, 0, 0), (.bipush 112, 2, 0, 0), zE, (.if_icmp .eq 33, 3, 0, 0), zE, zE, (.iload_n 0, 1, 0, 0), (.bipush 104, 2, 0, 0), zE, (.if_icmp .eq 27, 3, 0, 0), zE, zE, (.iload_n 0, 1, 0, 0), (.bipush 99, 2, 0, 0), zE, (.if_icmp .eq 21, 3, 0, 0), zE, zE, (.iload_n 0, 1, 0, 0), (.bipush 116, 2, 0, 0), zE, (.if_icmp .eq 15, 3, 0, 0), zE, zE, (.iload_n 0, 1, 0, 0), (.bipush 108, 2, 0, 0), zE, (.if_icmp .eq 9, 3, 0, 0), zE, zE, (.iload_n 0, 1, 0, 0), (.bipush 110, 2, 0, 0), zE, (.if_icmp .ne 7, 3, 0, 0), zE, zE, (.iconst 1, 1, 0, 0), (.goto 4, 3, 0, 0), zE, zE, (.iconst 0, 1, 0, 0), (.ireturn, 1, 0, 0)]
def E191 : List Ent := [(.aload_n 0, 1, 0, 0), (.iload_n 1, 1, 0, 0), (.invokevirtual 86, 3, 145, 0), zE, zE, (.istore_n 2, 1, 0, 0), (.aload_n 0, 1, 0, 0), (.getfield 22, 3, 5, 5), zE, zE, (.iload_n 1, 1, 0, 0), (.iaload, 1, 0, 0), (.istore_n 3, 1, 0, 0), (.iconst 1, 1, 0, 0), (.istore 4, 2, 0, 0), zE, (.iconst 0, 1, 0, 0), (.istore 5, 2, 0, 0), zE, (.iload 5, 2, 0, 0), zE, (.aload_n 0, 1, 0, 0), (.getfield 232, 3, 5, 31), zE, zE, (.if_icmp .ge 45, 3, 0, 0), zE, zE, (.iload 4, 2, 0, 0), zE, (.ifCond .eq 18, 3, 0, 0), zE, zE, (.aload_n 0, 1, 0, 0), (.getfield 64, 3, 5, 30), zE, zE, (.iload 5, 2, 0, 0), zE, (.iaload, 1, 0, 0), (.iload_n 3, 1, 0, 0), (.if_icmp .ne 7, 3, 0, 0), zE, zE, (.iconst 1, 1, 0, 0), (.goto 4, 3, 0, 0), zE, zE, (.iconst 0, 1, 0, 0), (.istore 4, 2, 0, 0), zE, (.iload_n 3, 1, 0, 0), (.iload_n 2, 1, 0, 0), (.if_icmp .le 9, 3, 0, 0), zE, zE, (.iload_n 3, 1, 0, 0), (.iload_n 2, 1, 0, 0), (.isub, 1, 0, 0), (.goto 4, 3, 0, 0), zE, zE, (.iconst 0, 1, 0, 0), (.istore_n 3, 1, 0, 0), (.iinc 5 1, 3, 0, 0), zE, zE, (.goto (-48), 3, 0, 0), zE, zE, (.iload 4, 2, 0, 0), zE, (.ireturn, 1, 0, 0)]
def E192 : List Ent := [(.aload_n 0, 1, 0, 0), (.iconst 0, 1, 0, 0), (.putfield 67, 3, 5, 10), zE, zE, (.aload_n 0, 1, 0, 0), (.getfield 232, 3, 5, 31), zE, zE, (.istore_n 1, 1, 0, 0), (.aload_n 0, 1, 0, 0), (.iconst 0, 1, 0, 0), (.putfield 232, 3, 5, 31), zE, zE, (.iconst 0, 1, 0, 0), (.istore_n 2, 1, 0, 0), (.iload_n 2, 1, 0, 0), (.iload_n 1, 1, 0, 0), (.if_icmp .ge 34, 3, 0, 0), zE, zE, (.iload_n 2, 1, 0, 0), (.aload_n 0, 1, 0, 0), (.getfield 71, 3, 5, 0), zE, zE, (.if_icmp .ge 18, 3, 0, 0), zE, zE, (.aload_n 0, 1, 0, 0), (.getfield 64, 3, 5, 30), zE, zE, (.iload_n 2, 1, 0, 0), (.iaload, 1, 0, 0), (.aload_n 0, 1, 0, 0), (.getfield 22, 3, 5, 5), zE, zE, (.iload_n 2, 1, 0, 0), (.iaload, 1, 0, 0), (.if_icmp .eq 5, 3, 0, 0), zE, zE, (.iload_n 2, 1, 0, 0), (.ireturn, 1, 0, 0), (.iinc 2 1, 3, 0, 0), zE, zE, (.goto (-33), 3, 0, 0), zE, zE, (.bipush (-9), 2, 0, 0), zE, (.ireturn, 1, 0, 0)]
def E193 : List Ent := [(.aload_n 0, 1, 0, 0), (.iconst 0, 1, 0, 0), (.putfield 67, 3, 5, 10), zE, zE, (.aload_n 0, 1, 0, 0), (.iload_n 1, 1, 0, 0), (.invokevirtual 78, 3, 155, 0), zE, zE, (.ifCond .eq 11, 3, 0, 0), zE, zE, (.aload_n 0, 1, 0, 0), (.iload_n 1, 1, 0, 0), (.invokevirtual 210, 3, 159, 0), zE, zE, (.goto 8, 3, 0, 0), zE, zE, (.aload_n 0, 1, 0, 0), (.iconst (-1), 1, 0, 0), (.invokevirtual 106, 3, 135, 0), zE, zE, (.ireturn, 1, 0, 0)]
def E194 : List Ent := [(.aload_n 0, 1, 0, 0), (.iconst 0, 1, 0, 0), (.putfield 67, 3, 5, 10), zE, zE, (.aload_n 0, 1, 0, 0), (.iload_n 1, 1, 0, 0), (.invokevirtual 78, 3, 155, 0), zE, zE, (.ifCond .ne 7, 3, 0, 0), zE, zE, (.iconst (-1), 1, 0, 0), (.goto 18, 3, 0, 0), zE, zE, (.aload_n 0, 1, 0, 0), (.getfield 22, 3, 5, 5), zE, zE, (.iload_n 1, 1, 0, 0), (.iaload, 1, 0, 0), (.ifCond .ne 8, 3, 0, 0), zE, zE, (.bipush (-3), 2, 0, 0), zE, (.goto 4, 3, 0, 0), zE, zE, (.iconst 0, 1, 0, 0), (.istore_n 2, 1, 0, 0), (.iload_n 2, 1, 0, 0), (.ifCond .ge 9, 3, 0, 0), zE, zE, (.aload_n 0, 1, 0, 0), (.iload_n 2, 1, 0, 0), (.invokevirtual 106, 3, 135, 0), zE, zE, (.ireturn, 1, 0, 0), (.aload_n 0, 1, 0, 0), (.invokevirtual 201, 3, 181, 0), zE, zE, (.aload_n 0, 1, 0, 0), (.getfield 25, 3, 5, 6), zE, zE, (.iload_n 1, 1, 0, 0), (.iconst 1, 1, 0, 0), (.aload_n 0, 1, 0, 0), (.getfield 25, 3, 5, 6), zE, zE, (.iload_n 1, 1, 0, 0), (.iaload, 1, 0, 0), (.isub, 1, 0, 0), (.iastore, 1, 0, 0), (.aload_n 0, 1, 0, 0), (.getfield 25, 3, 5, 6), zE, zE, (.iload_n 1, 1, 0, 0), (.iaload, 1, 0, 0), (.ireturn, 1, 0, 0)]
def E195 : List Ent := [(.bipush (-9), 2, 0, 0), zE, (.istore_n 1, 1, 0, 0), (.iconst 0, 1, 0, 0), (.istore_n 2, 1, 0, 0), (.iload_n 2, 1, 0, 0), (.aload_n 0, 1, 0, 0), (.getfield 71, 3, 5, 0), zE, zE, (.if_icmp .ge 32, 3, 0, 0), zE, zE, (.iload_n 1, 1, 0, 0), (.ifCond .lt 16, 3, 0, 0), zE, zE, (.aload_n 0, 1, 0, 0), (.iload_n 2, 1, 0, 0), (.invokevirtual 210, 3, 159, 0), zE, zE, (.aload_n 0, 1, 0, 0), (.iload_n 1, 1, 0, 0), (.invokevirtual 210, 3, 159, 0), zE, zE, (.if_icmp .le 7, 3, 0, 0), zE, zE, (.iload_n 2, 1, 0, 0), (.goto 4, 3, 0, 0), zE, zE, (.iload_n 1, 1, 0, 0), (.istore_n 1, 1, 0, 0), (.iinc 2 1, 3, 0, 0), zE, zE, (.goto (-34), 3, 0, 0), zE, zE, (.iload_n 1, 1, 0, 0), (.ireturn, 1, 0, 0)]
def E196 : List Ent := [(.aload_n 0, 1, 0, 0), (.iconst 0, 1, 0, 0), (.putfield 67, 3, 5, 10), zE, zE, (.iload_n 1, 1, 0, 0), (.i2l, 1, 0, 0), (.lconst 0, 1, 0, 0), (.ldc2_w 213, 3, 0, 3), zE, zE, (.invokestatic 74, 3, 141, 0), zE, zE, (.ifCond .ne 10, 3, 0, 0), zE, zE, (.aload_n 0, 1, 0, 0), (.bipush (-2), 2, 0, 0), zE, (.invokevirtual 106, 3, 135, 0), zE, zE, (.ireturn, 1, 0, 0), (.iload_n 1, 1, 0, 0), (.iconst 2, 1, 0, 0), (.if_icmp .ne 8, 3, 0, 0), zE, zE, (.aload_n 0, 1, 0, 0), (.invokevirtual 215, 3, 172, 0), zE, zE, (.ireturn, 1, 0, 0), (.bipush (-9), 2, 0, 0), zE, (.istore_n 2, 1, 0, 0), (.iconst 0, 1, 0, 0), (.istore_n 3, 1, 0, 0), (.iload_n 3, 1, 0, 0), (.aload_n 0, 1, 0, 0), (.getfield 71, 3, 5, 0), zE, zE, (.if_icmp .ge 42, 3, 0, 0), zE, zE, (.aload_n 0, 1, 0, 0), (.getfield 25, 3, 5, 6), zE, zE, (.iload_n 3, 1, 0, 0), (.iaload, 1, 0, 0), (.iconst 1, 1, 0, 0), (.if_icmp .ne 24, 3, 0, 0), zE, zE, (.iload_n 2, 1, 0, 0), (.ifCond .lt 16, 3, 0, 0), zE, zE, (.aload_n 0, 1, 0, 0), (.iload_n 3, 1, 0, 0), (.invokevirtual 210, 3, 159, 0), zE, zE, (.aload_n 0, 1, 0, 0), (.iload_n 2, 1, 0, 0), (.invokevirtual 210, 3, 159, 0), zE, zE, (.if_icmp .ge 7, 3, 0, 0), zE, zE, (.iload_n 3, 1, 0, 0), (.goto 4, 3, 0, 0), zE, zE, (.iload_n 2, 1, 0, 0), (.istore_n 2, 1, 0, 0), (.iinc 3 1, 3, 0, 0), zE, zE, (.goto (-44), 3, 0, 0), zE, zE, (.aload_n 0, 1, 0, 0), (.invokevirtual 218, 3, 195, 0), zE, zE, (.istore_n 3, 1, 0, 0), (.iload_n 1, 1, 0, 0), (.iconst 3, 1, 0, 0), (.if_icmp .ne 7, 3, 0, 0), zE, zE, (.iload_n 2, 1, 0, 0), (.goto 20, 3, 0, 0), zE, zE, (.iload_n 1, 1, 0, 0), (.ifCond .eq 7, 3, 0, 0), zE, zE, (.iload_n 3, 1, 0, 0), (.ifCond .ge 7, 3, 0, 0), zE, zE, (.iload_n 3, 1, 0, 0), (.goto 8, 3, 0, 0), zE, zE, (.aload_n 0, 1, 0, 0), (.iload_n 3, 1, 0, 0), (.invokevirtual 210, 3, 159, 0), zE, zE, (.ireturn, 1, 0, 0)]
def E197 : List Ent := [(.aload_n 0, 1, 0, 0), (.iconst 0, 1, 0, 0), (.putfield 67, 3, 5, 10), zE, zE, (.iload_n 1, 1, 0, 0), (.iconst 1, 1, 0, 0), (.bipush 20, 2, 0, 0), zE, (.invokestatic 198, 3, 134, 0), zE, zE, (.iload_n 3, 1, 0, 0), (.iconst 1, 1, 0, 0), (.invokestatic 194, 3, 142, 0), zE, zE, (.istore 4, 2, 0, 0), zE, (.iload 4, 2, 0, 0), zE, (.ifCond .ge 10, 3, 0, 0), zE, zE, (.aload_n 0, 1, 0, 0), (.iload 4, 2, 0, 0), zE, (.invokevirtual 106, 3, 135, 0), zE, zE, (.ireturn, 1, 0, 0), (.aload_n 0, 1, 0, 0), (.iload_n 2, 1, 0, 0), (.putfield 261, 3, 5, 32), zE, zE, (.iconst 0, 1, 0, 0), (.istore 5, 2, 0, 0), zE, (.iconst 0, 1, 0, 0), (.istore 6, 2, 0, 0), zE, (.aload_n 0, 1, 0, 0), (.invokevirtual 207, 3, 149, 0), zE, zE, (.istore 7, 2, 0, 0), zE, (.aload_n 0, 1, 0, 0), (.invokevirtual 159, 3, 143, 0), zE, zE, (.iconst 0, 1, 0, 0), (.istore 8, 2, 0, 0), zE, (.iload 8, 2, 0, 0), zE, (.iload_n 1, 1, 0, 0), (.if_icmp .ge 100, 3, 0, 0), zE, zE, (.iconst 0, 1, 0, 0), (.istore 9, 2, 0, 0), zE, (.iload 9, 2, 0, 0), zE, (.aload_n 0, 1, 0, 0), (.getfield 71, 3, 5, 0), zE, zE, (.if_icmp .ge 22, 3, 0, 0), zE, zE, (.aload_n 0, 1, 0, 0), (.getfield 16, 3, 5, 3), zE, zE, (.iload 9, 2, 0, 0), zE, (.aload_n 0, 1, 0, 0), (.bipush 60, 2, 0, 0), zE, (.invokevirtual 267, 3, 177, 0), zE, zE, (.iastore, 1, 0, 0), (.iinc 9 1, 3, 0, 0), zE, zE, (.goto (-25), 3, 0, 0), zE, zE, (.aload_n 0, 1, 0, 0), (.bipush 8, 2, 0, 0), zE, (.invokevirtual 153, 3, 168, 0), zE, zE, (.iload 5, 2, 0, 0), zE, (.aload_n 0, 1, 0, 0), (.invokevirtual 207, 3, 149, 0), zE, zE, (.iload 7, 2, 0, 0), zE, (.isub, 1, 0, 0), (.iadd, 1, 0, 0), (.istore 5, 2, 0, 0), zE, (.iconst 0, 1, 0, 0), (.istore 9, 2, 0, 0), zE, (.iload 9, 2, 0, 0), zE, (.aload_n 0, 1, 0, 0), (.getfield 71, 3, 5, 0), zE, zE, (.if_icmp .ge 29, 3, 0, 0), zE, zE, (.iload 6, 2, 0, 0), zE, (.aload_n 0, 1, 0, 0), (.getfield 22, 3, 5, 5), zE, zE, (.iload 9, 2, 0, 0), zE, (.iaload, 1, 0, 0), (.ifCond .ne 7, 3, 0, 0), zE, zE, (.iconst 1, 1, 0, 0), (.goto 4, 3, 0, 0), zE, zE, (.iconst 0, 1, 0, 0), (.iadd, 1, 0, 0), (.istore 6, 2, 0, 0), zE, (.iinc 9 1, 3, 0, 0), zE, zE, (.goto (-32), 3, 0, 0), zE, zE, (.aload_n 0, 1, 0, 0), (.invokevirtual 165, 3, 140, 0), zE, zE, (.iinc 8 1, 3, 0, 0), zE, zE, (.goto (-100), 3, 0, 0), zE, zE, (.iload_n 3, 1, 0, 0), (.ifCond .ne 8, 3, 0, 0), zE, zE, (.iload 5, 2, 0, 0), zE, (.goto 5, 3, 0, 0), zE, zE, (.iload 6, 2, 0, 0), zE, (.ireturn, 1, 0, 0)]
def E198 : List Ent := [(.aload_n 0, 1, 0, 0), (.iconst 0, 1, 0, 0), (.putfield 67, 3, 5, 10), zE, zE, (.iload_n 1, 1, 0, 0), (.i2l, 1, 0, 0), (.lconst 0, 1, 0, 0), (.lconst 1, 1, 0, 0), (.invokestatic 74, 3, 141, 0), zE, zE, (.ifCond .eq 20, 3, 0, 0), zE, zE, (.aload_n 0, 1, 0, 0), (.invokevirtual 258, 3, 153, 0), zE, zE, (.i2l, 1, 0, 0), (.aload_n 0, 1, 0, 0), (.getfield 71, 3, 5, 0), zE, zE, (.i2l, 1, 0, 0), (.iload_n 1, 1, 0, 0), (.invokestatic 251, 3, 175, 0), zE, zE, (.goto 14, 3, 0, 0), zE, zE, (.ldc2_w 246, 3, 0, 4000000000000000000), zE, zE, (.aload_n 0, 1, 0, 0), (.bipush (-2), 2, 0, 0), zE, (.invokevirtual 106, 3, 135, 0), zE, zE, (.i2l, 1, 0, 0), (.lsub, 1, 0, 0), (.lreturn, 1, 0, 0)]
def E199 : List Ent := [(.aload_n 0, 1, 0, 0), (.iconst 0, 1, 0, 0), (.putfield 67, 3, 5, 10), zE, zE, (.aload_n 0, 1, 0, 0), (.iload_n 1, 1, 0, 0), (.invokevirtual 78, 3, 155, 0), zE, zE, (.ifCond .eq 13, 3, 0, 0), zE, zE, (.iload_n 2, 1, 0, 0), (.iconst 1, 1, 0, 0), (.bipush 12, 2, 0, 0), zE, (.invokestatic 198, 3, 134, 0), zE, zE, (.goto 4, 3, 0, 0), zE, zE, (.iconst (-1), 1, 0, 0), (.iload_n 3, 1, 0, 0), (.iconst 2, 1, 0, 0), (.invokestatic 194, 3, 142, 0), zE, zE, (.istore 4, 2, 0, 0), zE, (.iload 4, 2, 0, 0), zE, (.ifCond .ge 10, 3, 0, 0), zE, zE, (.aload_n 0, 1, 0, 0), (.iload 4, 2, 0, 0), zE, (.invokevirtual 106, 3, 135, 0), zE, zE, (.ireturn, 1, 0, 0), (.aload_n 0, 1, 0, 0), (.getfield 28, 3, 5, 7), zE, zE, (.iload_n 1, 1, 0, 0), (.iaload, 1, 0, 0), (.istore 5, 2, 0, 0), zE, (.aload_n 0, 1, 0, 0), (.invokevirtual 159, 3, 143, 0), zE, zE, (.aload_n 0, 1, 0, 0), (.iload_n 2, 1, 0, 0), (.invokevirtual 153, 3, 168, 0), zE, zE, (.iload_n 3, 1, 0, 0), (.ifCond .ne 12, 3, 0, 0), zE, zE, (.aload_n 0, 1, 0, 0), (.getfield 16, 3, 5, 3), zE, zE, (.iload_n 1, 1, 0, 0), (.iaload, 1, 0, 0), (.goto 26, 3, 0, 0), zE, zE, (.iload_n 3, 1, 0, 0), (.iconst 1, 1, 0, 0), (.if_icmp .ne 12, 3, 0, 0), zE, zE, (.aload_n 0, 1, 0, 0), (.getfield 22, 3, 5, 5), zE, zE, (.iload_n 1, 1, 0, 0), (.iaload, 1, 0, 0), (.goto 12, 3, 0, 0), zE, zE, (.aload_n 0, 1, 0, 0), (.getfield 28, 3, 5, 7), zE, zE, (.iload_n 1, 1, 0, 0), (.iaload, 1, 0, 0), (.iload 5, 2, 0, 0), zE, (.isub, 1, 0, 0), (.istore 6, 2, 0, 0), zE, (.aload_n 0, 1, 0, 0), (.invokevirtual 165, 3, 140, 0), zE, zE, (.iload 6, 2, 0, 0), zE, (.ireturn, 1, 0, 0)]
def E200 : List Ent := [(.aload_n 0, 1, 0, 0), (.iconst 0, 1, 0, 0), (.putfield 67, 3, 5, 10), zE, zE, (.iload_n 1, 1, 0, 0), (.iconst 1, 1, 0, 0), (.bipush 12, 2, 0, 0), zE, (.invokestatic 198, 3, 134, 0), zE, zE, (.iload_n 2, 1, 0, 0), (.iconst 1, 1, 0, 0), (.invokestatic 194, 3, 142, 0), zE, zE, (.istore_n 3, 1, 0, 0), (.iload_n 3, 1, 0, 0), (.ifCond .ge 9, 3, 0, 0), zE, zE, (.aload_n 0, 1, 0, 0), (.iload_n 3, 1, 0, 0), (.invokevirtual 106, 3, 135, 0), zE, zE, (.ireturn, 1, 0, 0), (.aload_n 0, 1, 0, 0), (.invokevirtual 207, 3, 149, 0), zE, zE, (.istore 4, 2, 0, 0), zE, (.aload_n 0, 1, 0, 0), (.invokevirtual 226, 3, 152, 0), zE, zE, (.istore 5, 2, 0, 0), zE, (.aload_n 0, 1, 0, 0), (.invokevirtual 159, 3, 143, 0), zE, zE, (.aload_n 0, 1, 0, 0), (.iload_n 1, 1, 0, 0), (.invokevirtual 153, 3, 168, 0), zE, zE, (.iload_n 2, 1, 0, 0), (.ifCond .ne 13, 3, 0, 0), zE, zE, (.aload_n 0, 1, 0, 0), (.invokevirtual 207, 3, 149, 0), zE, zE, (.iload 4, 2, 0, 0), zE, (.isub, 1, 0, 0), (.goto 10, 3, 0, 0), zE, zE, (.iload 5, 2, 0, 0), zE, (.aload_n 0, 1, 0, 0), (.invokevirtual 226, 3, 152, 0), zE, zE, (.isub, 1, 0, 0), (.istore 6, 2, 0, 0), zE, (.aload_n 0, 1, 0, 0), (.invokevirtual 165, 3, 140, 0), zE, zE, (.iload 6, 2, 0, 0), zE, (.ireturn, 1, 0, 0)]
def E201 : List Ent := [(.aload_n 0, 1, 0, 0), (.iconst 0, 1, 0, 0), (.putfield 67, 3, 5, 10), zE, zE, (.iload_n 1, 1, 0, 0), (.iconst 1, 1, 0, 0), (.bipush 12, 2, 0, 0), zE, (.invokestatic 198, 3, 134, 0), zE, zE, (.istore_n 2, 1, 0, 0), (.iload_n 2, 1, 0, 0), (.ifCond .ne 20, 3, 0, 0), zE, zE, (.aload_n 0, 1, 0, 0), (.getfield 89, 3, 5, 9), zE, zE, (.iload_n 1, 1, 0, 0), (.iadd, 1, 0, 0), (.sipush 999, 3, 0, 0), zE, zE, (.if_icmp .le 8, 3, 0, 0), zE, zE, (.bipush (-6), 2, 0, 0), zE, (.goto 4, 3, 0, 0), zE, zE, (.iload_n 2, 1, 0, 0), (.istore_n 2, 1, 0, 0), (.iload_n 2, 1, 0, 0), (.ifCond .ge 9, 3, 0, 0), zE, zE, (.aload_n 0, 1, 0, 0), (.iload_n 2, 1, 0, 0), (.invokevirtual 106, 3, 135, 0), zE, zE, (.ireturn, 1, 0, 0), (.aload_n 0, 1, 0, 0), (.invokevirtual 201, 3, 181, 0), zE, zE, (.aload_n 0, 1, 0, 0), (.invokevirtual 207, 3, 149, 0), zE, zE, (.istore_n 3, 1, 0, 0), (.aload_n 0, 1, 0, 0), (.iload_n 1, 1, 0, 0), (.invokevirtual 153, 3, 168, 0), zE, zE, (.aload_n 0, 1, 0, 0), (.invokevirtual 207, 3, 149, 0), zE, zE, (.iload_n 3, 1, 0, 0), (.isub, 1, 0, 0), (.ireturn, 1, 0, 0)]
def E202 : List Ent := [(.aload_n 0, 1, 0, 0), (.iconst 0, 1, 0, 0), (.putfield 67, 3, 5, 10), zE, zE, (.iconst 0, 1, 0, 0), (.istore 4, 2, 0, 0), zE, (.iload_n 1, 1, 0, 0), (.i2l, 1, 0, 0), (.lconst 0, 1, 0, 0), (.ldc2_w 192, 3, 0, 5), zE, zE, (.invokestatic 74, 3, 141, 0), zE, zE, (.ifCond .ne 10, 3, 0, 0), zE, zE, (.bipush (-2), 2, 0, 0), zE, (.istore 4, 2, 0, 0), zE, (.goto 43, 3, 0, 0), zE, zE, (.iload_n 2, 1, 0, 0), (.ifCond .lt 7, 3, 0, 0), zE, zE, (.iload_n 3, 1, 0, 0), (.ifCond .ge 10, 3, 0, 0), zE, zE, (.bipush (-4), 2, 0, 0), zE, (.istore 4, 2, 0, 0), zE, (.goto 28, 3, 0, 0), zE, zE, (.iload_n 2, 1, 0, 0), (.bipush 9, 2, 0, 0), zE, (.if_icmp .gt 18, 3, 0, 0), zE, zE, (.iload_n 3, 1, 0, 0), (.bipush 99, 2, 0, 0), zE, (.if_icmp .gt 12, 3, 0, 0), zE, zE, (.aload_n 0, 1, 0, 0), (.getfield 71, 3, 5, 0), zE, zE, (.bipush 6, 2, 0, 0), zE, (.if_icmp .ne 7, 3, 0, 0), zE, zE, (.bipush (-6), 2, 0, 0), zE, (.istore 4, 2, 0, 0), zE, (.iload 4, 2, 0, 0), zE, (.ifCond .ge 10, 3, 0, 0), zE, zE, (.aload_n 0, 1, 0, 0), (.iload 4, 2, 0, 0), zE, (.invokevirtual 106, 3, 135, 0), zE, zE, (.ireturn, 1, 0, 0), (.aload_n 0, 1, 0, 0), (.iload_n 1, 1, 0, 0), (.iload_n 2, 1, 0, 0), (.iload_n 3, 1, 0, 0), (.invokevirtual 140, 3, 165, 0), zE, zE, (.aload_n 0, 1, 0, 0), (.iconst 0, 1, 0, 0), (.putfield 168, 3, 5, 29), zE, zE, (.aload_n 0, 1, 0, 0), (.getfield 71, 3, 5, 0), zE, zE, (.iconst 1, 1, 0, 0), (.isub, 1, 0, 0), (.ireturn, 1, 0, 0)]
def E203 : List Ent := [(.aload_n 0, 1, 0, 0), (.iconst 0, 1, 0, 0), (.putfield 67, 3, 5, 10), zE, zE, (.aload_n 0, 1, 0, 0), (.iload_n 1, 1, 0, 0), (.invokevirtual 78, 3, 155, 0), zE, zE, (.ifCond .eq 15, 3, 0, 0), zE, zE, (.iload_n 2, 1, 0, 0), (.i2l, 1, 0, 0), (.lconst 0, 1, 0, 0), (.ldc2_w 190, 3, 0, 10), zE, zE, (.invokestatic 74, 3, 141, 0), zE, zE, (.ifCond .ne 22, 3, 0, 0), zE, zE, (.aload_n 0, 1, 0, 0), (.aload_n 0, 1, 0, 0), (.iload_n 1, 1, 0, 0), (.invokevirtual 78, 3, 155, 0), zE, zE, (.ifCond .eq 8, 3, 0, 0), zE, zE, (.bipush (-2), 2, 0, 0), zE, (.goto 4, 3, 0, 0), zE, zE, (.iconst (-1), 1, 0, 0), (.invokevirtual 106, 3, 135, 0), zE, zE, (.ireturn, 1, 0, 0), (.iload_n 2, 1, 0, 0), (.tableswitch 123 0 9 #[55, 62, 69, 76, 83, 90, 97, 104, 111, 117], 55, 0, 0), zE, zE, zE, zE, zE, zE, zE, zE, zE, zE, zE, zE, zE, zE, zE, zE, zE, zE, zE, zE, zE, zE, zE, zE, zE, zE, zE, zE, zE, zE, zE, zE, zE, zE, zE, zE, zE, zE, zE, zE, zE, zE, zE, zE, zE, zE, zE, zE, zE, zE, zE, zE, zE, zE, (.aload_n 0, 1, 0, 0), (.getfield 7, 3, 5, 1), zE, zE, (.iload_n 1, 1, 0, 0), (.iaload, 1, 0, 0), (.ireturn, 1, 0, 0), (.aload_n 0, 1, 0, 0), (.getfield 13, 3, 5, 2), zE, zE, (.iload_n 1, 1, 0, 0), (.iaload, 1, 0, 0), (.ireturn, 1, 0, 0), (.aload_n 0, 1, 0, 0), (.getfield 16, 3, 5, 3), zE, zE, (.iload_n 1, 1, 0, 0), (.iaload, 1, 0, 0), (.ireturn, 1, 0, 0), (.aload_n 0, 1, 0, 0), (.getfield 19, 3, 5, 4), zE, zE, (.iload_n 1, 1, 0, 0), (.iaload, 1, 0, 0), (.ireturn, 1, 0, 0), (.aload_n 0, 1, 0, 0), (.getfield 22, 3, 5, 5), zE, zE, (.iload_n 1, 1, 0, 0), (.iaload, 1, 0, 0), (.ireturn, 1, 0, 0), (.aload_n 0, 1, 0, 0), (.getfield 25, 3, 5, 6), zE, zE, (.iload_n 1, 1, 0, 0), (.iaload, 1, 0, 0), (.ireturn, 1, 0, 0), (.aload_n 0, 1, 0, 0), (.getfield 28, 3, 5, 7), zE, zE, (.iload_n 1, 1, 0, 0), (.iaload, 1, 0, 0), (.ireturn, 1, 0, 0), (.aload_n 0, 1, 0, 0), (.getfield 31, 3, 5, 8), zE, zE, (.iload_n 1, 1, 0, 0), (.iaload, 1, 0, 0), (.ireturn, 1, 0, 0), (.aload_n 0, 1, 0, 0), (.iload_n 1, 1, 0, 0), (.invokevirtual 82, 3, 136, 0), zE, zE, (.ireturn, 1, 0, 0), (.aload_n 0, 1, 0, 0), (.iload_n 1, 1, 0, 0), (.invokevirtual 86, 3, 145, 0), zE, zE, (.ireturn, 1, 0, 0), (.aload_n 0, 1, 0, 0), (.iload_n 1, 1, 0, 0), (.invokevirtual 103, 3, 167, 0), zE, zE, (.ifCond .eq 7, 3, 0, 0), zE, zE, (.iconst 1, 1, 0, 0), (.goto 4, 3, 0, 0), zE, zE, (.iconst 0, 1, 0, 0), (.ireturn, 1, 0, 0)]
def E204 : List Ent := [(.iconst 0, 1, 0, 0), (.istore_n 2, 1, 0, 0), (.iconst 0, 1, 0, 0), (.istore_n 3, 1, 0, 0), (.iload_n 3, 1, 0, 0), (.iload_n 1, 1, 0, 0), (.if_icmp .ge 92, 3, 0, 0), zE, zE, (.aload_n 0, 1, 0, 0), (.aload_n 0, 1, 0, 0), (.getfield 115, 3, 5, 16), zE, zE, (.ifCond .ne 20, 3, 0, 0), zE, zE, (.aload_n 0, 1, 0, 0), (.invokevirtual 119, 3, 185, 0), zE, zE, (.i2l, 1, 0, 0), (.ldc2_w 123, 3, 0, 48), zE, zE, (.ldc2_w 125, 3, 0, 57), zE, zE, (.invokestatic 74, 3, 141, 0), zE, zE, (.ifCond .ne 7, 3, 0, 0), zE, zE, (.iconst 1, 1, 0, 0), (.goto 4, 3, 0, 0), zE, zE, (.iconst 0, 1, 0, 0), (.putfield 115, 3, 5, 16), zE, zE, (.aload_n 0, 1, 0, 0), (.getfield 115, 3, 5, 16), zE, zE, (.ifCond .eq 7, 3, 0, 0), zE, zE, (.iconst 0, 1, 0, 0), (.goto 20, 3, 0, 0), zE, zE, (.bipush 10, 2, 0, 0), zE, (.iload_n 2, 1, 0, 0), (.imul, 1, 0, 0), (.aload_n 0, 1, 0, 0), (.getfield 40, 3, 5, 13), zE, zE, (.aload_n 0, 1, 0, 0), (.getfield 112, 3, 5, 15), zE, zE, (.iaload, 1, 0, 0), (.iadd, 1, 0, 0), (.bipush 48, 2, 0, 0), zE, (.isub, 1, 0, 0), (.istore_n 2, 1, 0, 0), (.aload_n 0, 1, 0, 0), (.dup, 1, 0, 0), (.getfield 112, 3, 5, 15), zE, zE, (.aload_n 0, 1, 0, 0), (.getfield 115, 3, 5, 16), zE, zE, (.ifCond .eq 7, 3, 0, 0), zE, zE, (.iconst 0, 1, 0, 0), (.goto 4, 3, 0, 0), zE, zE, (.iconst 1, 1, 0, 0), (.iadd, 1, 0, 0), (.putfield 112, 3, 5, 15), zE, zE, (.iinc 3 1, 3, 0, 0), zE, zE, (.goto (-91), 3, 0, 0), zE, zE, (.iload_n 2, 1, 0, 0), (.ireturn, 1, 0, 0)]
def E205 : List Ent := [(.aload_n 0, 1, 0, 0), (.getfield 49, 3, 5, 20), zE, zE, (.iload_n 2, 1, 0, 0), (.aload_n 0, 1, 0, 0), (.iload_n 1, 1, 0, 0), (.bipush 110, 2, 0, 0), zE, (.if_icmp .ne 7, 3, 0, 0), zE, zE, (.iconst 2, 1, 0, 0), (.goto 4, 3, 0, 0), zE, zE, (.iconst 1, 1, 0, 0), (.invokevirtual 127, 3, 204, 0), zE, zE, (.iastore, 1, 0, 0), (.iload_n 1, 1, 0, 0), (.bipush 112, 2, 0, 0), zE, (.if_icmp .ne 32, 3, 0, 0), zE, zE, (.aload_n 0, 1, 0, 0), (.getfield 49, 3, 5, 20), zE, zE, (.iload_n 2, 1, 0, 0), (.iconst 1, 1, 0, 0), (.iadd, 1, 0, 0), (.aload_n 0, 1, 0, 0), (.iconst 1, 1, 0, 0), (.invokevirtual 127, 3, 204, 0), zE, zE, (.iastore, 1, 0, 0), (.aload_n 0, 1, 0, 0), (.getfield 49, 3, 5, 20), zE, zE, (.iload_n 2, 1, 0, 0), (.iconst 2, 1, 0, 0), (.iadd, 1, 0, 0), (.aload_n 0, 1, 0, 0), (.iconst 2, 1, 0, 0), (.invokevirtual 127, 3, 204, 0), zE, zE, (.iastore, 1, 0, 0), (.goto 50, 3, 0, 0), zE, zE, (.iload_n 1, 1, 0, 0), (.bipush 116, 2, 0, 0), zE, (.if_icmp .ne 19, 3, 0, 0), zE, zE, (.aload_n 0, 1, 0, 0), (.getfield 49, 3, 5, 20), zE, zE, (.iload_n 2, 1, 0, 0), (.iconst 1, 1, 0, 0), (.iadd, 1, 0, 0), (.aload_n 0, 1, 0, 0), (.iconst 1, 1, 0, 0), (.invokevirtual 127, 3, 204, 0), zE, zE, (.iastore, 1, 0, 0), (.goto 28, 3, 0, 0), zE, zE, (.iload_n 1, 1, 0, 0), (.bipush 104, 2, 0, 0), zE, (.if_icmp .eq 9, 3, 0, 0), zE, zE, (.iload_n 1, 1, 0, 0), (.bipush 99, 2, 0, 0), zE, (.if_icmp .ne 16, 3, 0, 0), zE, zE, (.aload_n 0, 1, 0, 0), (.getfield 49, 3, 5, 20), zE, zE, (.iload_n 2, 1, 0, 0), (.iconst 1, 1, 0, 0), (.iadd, 1, 0, 0), (.aload_n 0, 1, 0, 0), (.iconst 2, 1, 0, 0), (.invokevirtual 127, 3, 204, 0), zE, zE, (.iastore, 1, 0, 0), (.return_, 1, 0, 0)]
def E206 : List Ent := [(.aload_n 0, 1, 0, 0), (.getfield 130, 3, 5, 17), zE, zE, (.istore_n 1, 1, 0, 0), (.aload_n 0, 1, 0, 0), (.invokevirtual 119, 3, 185, 0), zE, zE, (.istore_n 2, 1, 0, 0), (.aload_n 0, 1, 0, 0), (.getfield 43, 3, 5, 18), zE, zE, (.iload_n 1, 1, 0, 0), (.aload_n 0, 1, 0, 0), (.getfield 112, 3, 5, 15), zE, zE, (.iastore, 1, 0, 0), (.aload_n 0, 1, 0, 0), (.getfield 46, 3, 5, 19), zE, zE, (.iload_n 1, 1, 0, 0), (.iload_n 2, 1, 0, 0), (.iastore, 1, 0, 0), (.aload_n 0, 1, 0, 0), (.aload_n 0, 1, 0, 0), (.getfield 115, 3, 5, 16), zE, zE, (.ifCond .ne 10, 3, 0, 0), zE, zE, (.iload_n 2, 1, 0, 0), (.invokestatic 133, 3, 190, 0), zE, zE, (.ifCond .ne 7, 3, 0, 0), zE, zE, (.iconst 1, 1, 0, 0), (.goto 4, 3, 0, 0), zE, zE, (.iconst 0, 1, 0, 0), (.putfield 115, 3, 5, 16), zE, zE, (.aload_n 0, 1, 0, 0), (.dup, 1, 0, 0), (.getfield 112, 3, 5, 15), zE, zE, (.aload_n 0, 1, 0, 0), (.getfield 115, 3, 5, 16), zE, zE, (.ifCond .eq 7, 3, 0, 0), zE, zE, (.iconst 0, 1, 0, 0), (.goto 4, 3, 0, 0), zE, zE, (.iconst 1, 1, 0, 0), (.iadd, 1, 0, 0), (.putfield 112, 3, 5, 15), zE, zE, (.aload_n 0, 1, 0, 0), (.getfield 115, 3, 5, 16), zE, zE, (.ifCond .ne 11, 3, 0, 0), zE, zE, (.aload_n 0, 1, 0, 0), (.iload_n 2, 1, 0, 0), (.iconst 3, 1, 0, 0), (.iload_n 1, 1, 0, 0), (.imul, 1, 0, 0), (.invokevirtual 136, 3, 205, 0), zE, zE, (.aload_n 0, 1, 0, 0), (.aload_n 0, 1, 0, 0), (.getfield 115, 3, 5, 16), zE, zE, (.ifCond .ne 12, 3, 0, 0), zE, zE, (.aload_n 0, 1, 0, 0), (.invokevirtual 119, 3, 185, 0), zE, zE, (.bipush 59, 2, 0, 0), zE, (.if_icmp .eq 7, 3, 0, 0), zE, zE, (.iconst 1, 1, 0, 0), (.goto 4, 3, 0, 0), zE, zE, (.iconst 0, 1, 0, 0), (.putfield 115, 3, 5, 16), zE, zE, (.aload_n 0, 1, 0, 0), (.dup, 1, 0, 0), (.getfield 112, 3, 5, 15), zE, zE, (.aload_n 0, 1, 0, 0), (.getfield 115, 3, 5, 16), zE, zE, (.ifCond .eq 7, 3, 0, 0), zE, zE, (.iconst 0, 1, 0, 0), (.goto 4, 3, 0, 0), zE, zE, (.iconst 1, 1, 0, 0), (.iadd, 1, 0, 0), (.putfield 112, 3, 5, 15), zE, zE, (.aload_n 0, 1, 0, 0), (.dup, 1, 0, 0), (.getfield 130, 3, 5, 17), zE, zE, (.iconst 1, 1, 0, 0), (.iadd, 1, 0, 0), (.putfield 130, 3, 5, 17), zE, zE, (.return_, 1, 0, 0)]
def E207 : List Ent := [(.aload_n 0, 1, 0, 0), (.invokevirtual 159, 3, 143, 0), zE, zE, (.aload_n 0, 1, 0, 0), (.getfield 28, 3, 5, 7), zE, zE, (.iload_n 1, 1, 0, 0), (.iaload, 1, 0, 0), (.istore 4, 2, 0, 0), zE, (.aload_n 0, 1, 0, 0), (.getfield 31, 3, 5, 8), zE, zE, (.iload_n 1, 1, 0, 0), (.iload_n 2, 1, 0, 0), (.iastore, 1, 0, 0), (.aload_n 0, 1, 0, 0), (.iload_n 3, 1, 0, 0), (.invokevirtual 153, 3, 168, 0), zE, zE, (.aload_n 0, 1, 0, 0), (.getfield 28, 3, 5, 7), zE, zE, (.iload_n 1, 1, 0, 0), (.iaload, 1, 0, 0), (.iload 4, 2, 0, 0), zE, (.isub, 1, 0, 0), (.istore 5, 2, 0, 0), zE, (.aload_n 0, 1, 0, 0), (.invokevirtual 165, 3, 140, 0), zE, zE, (.iload 5, 2, 0, 0), zE, (.ireturn, 1, 0, 0)]
def E208 : List Ent := [(.aload_n 0, 1, 0, 0), (.iconst 0, 1, 0, 0), (.putfield 67, 3, 5, 10), zE, zE, (.iload_n 1, 1, 0, 0), (.i2l, 1, 0, 0), (.lconst 0, 1, 0, 0), (.lconst 1, 1, 0, 0), (.invokestatic 74, 3, 141, 0), zE, zE, (.ifCond .ne 10, 3, 0, 0), zE, zE, (.aload_n 0, 1, 0, 0), (.bipush (-2), 2, 0, 0), zE, (.invokevirtual 106, 3, 135, 0), zE, zE, (.ireturn, 1, 0, 0), (.iconst 0, 1, 0, 0), (.istore_n 2, 1, 0, 0), (.iconst 0, 1, 0, 0), (.istore_n 3, 1, 0, 0), (.iload_n 3, 1, 0, 0), (.aload_n 0, 1, 0, 0), (.getfield 71, 3, 5, 0), zE, zE, (.if_icmp .ge 17, 3, 0, 0), zE, zE, (.iload_n 2, 1, 0, 0), (.aload_n 0, 1, 0, 0), (.iload_n 3, 1, 0, 0), (.invokevirtual 210, 3, 159, 0), zE, zE, (.iadd, 1, 0, 0), (.istore_n 2, 1, 0, 0), (.iinc 3 1, 3, 0, 0), zE, zE, (.goto (-19), 3, 0, 0), zE, zE, (.aload_n 0, 1, 0, 0), (.invokevirtual 218, 3, 195, 0), zE, zE, (.istore_n 3, 1, 0, 0), (.iload_n 1, 1, 0, 0), (.ifCond .eq 7, 3, 0, 0), zE, zE, (.iload_n 3, 1, 0, 0), (.ifCond .ge 7, 3, 0, 0), zE, zE, (.iload_n 2, 1, 0, 0), (.goto 16, 3, 0, 0), zE, zE, (.iload_n 2, 1, 0, 0), (.iconst 2, 1, 0, 0), (.idiv, 1, 0, 0), (.iload_n 2, 1, 0, 0), (.aload_n 0, 1, 0, 0), (.iload_n 3, 1, 0, 0), (.invokevirtual 210, 3, 159, 0), zE, zE, (.isub, 1, 0, 0), (.invokestatic 92, 3, 144, 0), zE, zE, (.ireturn, 1, 0, 0)]
def E209 : List Ent := [(.aload_n 0, 1, 0, 0), (.iconst 0, 1, 0, 0), (.putfield 67, 3, 5, 10), zE, zE, (.aload_n 0, 1, 0, 0), (.getfield 187, 3, 5, 23), zE, zE, (.ifCond .ne 10, 3, 0, 0), zE, zE, (.aload_n 0, 1, 0, 0), (.bipush (-3), 2, 0, 0), zE, (.invokevirtual 106, 3, 135, 0), zE, zE, (.ireturn, 1, 0, 0), (.aload_n 0, 1, 0, 0), (.aload_n 0, 1, 0, 0), (.getfield 55, 3, 5, 22), zE, zE, (.iconst 0, 1, 0, 0), (.invokevirtual 183, 3, 139, 0), zE, zE, (.aload_n 0, 1, 0, 0), (.iconst 0, 1, 0, 0), (.putfield 168, 3, 5, 29), zE, zE, (.aload_n 0, 1, 0, 0), (.getfield 89, 3, 5, 9), zE, zE, (.ireturn, 1, 0, 0)]
def E210 : List Ent := [(.aload_n 0, 1, 0, 0), (.iconst 0, 1, 0, 0), (.putfield 67, 3, 5, 10), zE, zE, (.iload_n 1, 1, 0, 0), (.i2l, 1, 0, 0), (.lconst 0, 1, 0, 0), (.lconst 1, 1, 0, 0), (.invokestatic 74, 3, 141, 0), zE, zE, (.ifCond .ne 10, 3, 0, 0), zE, zE, (.aload_n 0, 1, 0, 0), (.bipush (-2), 2, 0, 0), zE, (.invokevirtual 106, 3, 135, 0), zE, zE, (.ireturn, 1, 0, 0), (.bipush (-9), 2, 0, 0), zE, (.istore_n 2, 1, 0, 0), (.iconst 0, 1, 0, 0), (.istore_n 3, 1, 0, 0), (.iload_n 3, 1, 0, 0), (.aload_n 0, 1, 0, 0), (.getfield 71, 3, 5, 0), zE, zE, (.if_icmp .ge 64, 3, 0, 0), zE, zE, (.iload_n 2, 1, 0, 0), (.ifCond .lt 36, 3, 0, 0), zE, zE, (.iload_n 1, 1, 0, 0), (.ifCond .ne 19, 3, 0, 0), zE, zE, (.aload_n 0, 1, 0, 0), (.iload_n 3, 1, 0, 0), (.invokevirtual 82, 3, 136, 0), zE, zE, (.aload_n 0, 1, 0, 0), (.iload_n 2, 1, 0, 0), (.invokevirtual 82, 3, 136, 0), zE, zE, (.if_icmp .le 23, 3, 0, 0), zE, zE, (.goto 16, 3, 0, 0), zE, zE, (.aload_n 0, 1, 0, 0), (.iload_n 3, 1, 0, 0), (.invokevirtual 82, 3, 136, 0), zE, zE, (.aload_n 0, 1, 0, 0), (.iload_n 2, 1, 0, 0), (.invokevirtual 82, 3, 136, 0), zE, zE, (.if_icmp .ge 7, 3, 0, 0), zE, zE, (.iconst 1, 1, 0, 0), (.goto 4, 3, 0, 0), zE, zE, (.iconst 0, 1, 0, 0), (.istore 4, 2, 0, 0), zE, (.iload 4, 2, 0, 0), zE, (.ifCond .eq 7, 3, 0, 0), zE, zE, (.iload_n 3, 1, 0, 0), (.goto 4, 3, 0, 0), zE, zE, (.iload_n 2, 1, 0, 0), (.istore_n 2, 1, 0, 0), (.iinc 3 1, 3, 0, 0), zE, zE, (.goto (-66), 3, 0, 0), zE, zE, (.iload_n 2, 1, 0, 0), (.ireturn, 1, 0, 0)]
def E211 : List Ent := [(.aload_n 0, 1, 0, 0), (.iconst 0, 1, 0, 0), (.putfield 67, 3, 5, 10), zE, zE, (.aload_n 0, 1, 0, 0), (.iload_n 1, 1, 0, 0), (.invokevirtual 78, 3, 155, 0), zE, zE, (.ifCond .ne 9, 3, 0, 0), zE, zE, (.aload_n 0, 1, 0, 0), (.iconst (-1), 1, 0, 0), (.invokevirtual 106, 3, 135, 0), zE, zE, (.ireturn, 1, 0, 0), (.iconst 0, 1, 0, 0), (.istore_n 2, 1, 0, 0), (.iload_n 1, 1, 0, 0), (.istore_n 3, 1, 0, 0), (.iconst 0, 1, 0, 0), (.istore 4, 2, 0, 0), zE, (.iload_n 3, 1, 0, 0), (.ifCond .lt 30, 3, 0, 0), zE, zE, (.iload_n 2, 1, 0, 0), (.iload_n 3, 1, 0, 0), (.invokestatic 248, 3, 174, 0), zE, zE, (.ifCond .ne 22, 3, 0, 0), zE, zE, (.iload_n 2, 1, 0, 0), (.iconst 1, 1, 0, 0), (.iload_n 3, 1, 0, 0), (.ishl, 1, 0, 0), (.ior, 1, 0, 0), (.istore_n 2, 1, 0, 0), (.iinc 4 1, 3, 0, 0), zE, zE, (.aload_n 0, 1, 0, 0), (.getfield 31, 3, 5, 8), zE, zE, (.iload_n 3, 1, 0, 0), (.iaload, 1, 0, 0), (.istore_n 3, 1, 0, 0), (.goto (-28), 3, 0, 0), zE, zE, (.iload 4, 2, 0, 0), zE, (.ireturn, 1, 0, 0)]
def E212 : List Ent := [(.aload_n 0, 1, 0, 0), (.iconst 0, 1, 0, 0), (.putfield 67, 3, 5, 10), zE, zE, (.iload_n 1, 1, 0, 0), (.ifCond .ge 10, 3, 0, 0), zE, zE, (.aload_n 0, 1, 0, 0), (.bipush (-4), 2, 0, 0), zE, (.invokevirtual 106, 3, 135, 0), zE, zE, (.ireturn, 1, 0, 0), (.iload_n 1, 1, 0, 0), (.bipush 99, 2, 0, 0), zE, (.if_icmp .gt 12, 3, 0, 0), zE, zE, (.aload_n 0, 1, 0, 0), (.getfield 232, 3, 5, 31), zE, zE, (.bipush 12, 2, 0, 0), zE, (.if_icmp .ne 10, 3, 0, 0), zE, zE, (.aload_n 0, 1, 0, 0), (.bipush (-6), 2, 0, 0), zE, (.invokevirtual 106, 3, 135, 0), zE, zE, (.ireturn, 1, 0, 0), (.aload_n 0, 1, 0, 0), (.getfield 64, 3, 5, 30), zE, zE, (.aload_n 0, 1, 0, 0), (.getfield 232, 3, 5, 31), zE, zE, (.iload_n 1, 1, 0, 0), (.iastore, 1, 0, 0), (.aload_n 0, 1, 0, 0), (.dup, 1, 0, 0), (.getfield 232, 3, 5, 31), zE, zE, (.iconst 1, 1, 0, 0), (.iadd, 1, 0, 0), (.putfield 232, 3, 5, 31), zE, zE, (.aload_n 0, 1, 0, 0), (.getfield 232, 3, 5, 31), zE, zE, (.ireturn, 1, 0, 0)]
def E213 : List Ent := [(.aload_n 0, 1, 0, 0), (.iconst 0, 1, 0, 0), (.putfield 67, 3, 5, 10), zE, zE, (.aload_n 0, 1, 0, 0), (.iload_n 1, 1, 0, 0), (.invokevirtual 78, 3, 155, 0), zE, zE, (.ifCond .eq 13, 3, 0, 0), zE, zE, (.iload_n 2, 1, 0, 0), (.iconst 1, 1, 0, 0), (.bipush 12, 2, 0, 0), zE, (.invokestatic 198, 3, 134, 0), zE, zE, (.goto 4, 3, 0, 0), zE, zE, (.iconst (-1), 1, 0, 0), (.istore_n 3, 1, 0, 0), (.iload_n 3, 1, 0, 0), (.ifCond .ge 9, 3, 0, 0), zE, zE, (.aload_n 0, 1, 0, 0), (.iload_n 3, 1, 0, 0), (.invokevirtual 106, 3, 135, 0), zE, zE, (.ireturn, 1, 0, 0), (.iconst 0, 1, 0, 0), (.istore 4, 2, 0, 0), zE, (.aload_n 0, 1, 0, 0), (.getfield 16, 3, 5, 3), zE, zE, (.iload_n 1, 1, 0, 0), (.iaload, 1, 0, 0), (.istore 5, 2, 0, 0), zE, (.aload_n 0, 1, 0, 0), (.invokevirtual 159, 3, 143, 0), zE, zE, (.iconst 0, 1, 0, 0), (.istore 6, 2, 0, 0), zE, (.iload 6, 2, 0, 0), zE, (.aload_n 0, 1, 0, 0), (.getfield 71, 3, 5, 0), zE, zE, (.if_icmp .ge 56, 3, 0, 0), zE, zE, (.iload 6, 2, 0, 0), zE, (.iload_n 1, 1, 0, 0), (.if_icmp .eq 44, 3, 0, 0), zE, zE, (.aload_n 0, 1, 0, 0), (.getfield 31, 3, 5, 8), zE, zE, (.iload_n 1, 1, 0, 0), (.iload 6, 2, 0, 0), zE, (.iastore, 1, 0, 0), (.aload_n 0, 1, 0, 0), (.iload_n 2, 1, 0, 0), (.invokevirtual 153, 3, 168, 0), zE, zE, (.iload 4, 2, 0, 0), zE, (.aload_n 0, 1, 0, 0), (.getfield 16, 3, 5, 3), zE, zE, (.iload_n 1, 1, 0, 0), (.iaload, 1, 0, 0), (.iload 5, 2, 0, 0), zE, (.if_icmp .lt 10, 3, 0, 0), zE, zE, (.iconst 1, 1, 0, 0), (.iload 6, 2, 0, 0), zE, (.ishl, 1, 0, 0), (.goto 4, 3, 0, 0), zE, zE, (.iconst 0, 1, 0, 0), (.ior, 1, 0, 0), (.istore 4, 2, 0, 0), zE, (.aload_n 0, 1, 0, 0), (.invokevirtual 165, 3, 140, 0), zE, zE, (.iinc 6 1, 3, 0, 0), zE, zE, (.goto (-59), 3, 0, 0), zE, zE, (.iload 4, 2, 0, 0), zE, (.ireturn, 1, 0, 0)]
def E214 : List Ent := [(.aload_n 0, 1, 0, 0), (.iconst 0, 1, 0, 0), (.putfield 67, 3, 5, 10), zE, zE, (.iconst 0, 1, 0, 0), (.istore_n 1, 1, 0, 0), (.iconst 0, 1, 0, 0), (.istore_n 2, 1, 0, 0), (.iload_n 2, 1, 0, 0), (.aload_n 0, 1, 0, 0), (.getfield 71, 3, 5, 0), zE, zE, (.if_icmp .ge 48, 3, 0, 0), zE, zE, (.iload_n 2, 1, 0, 0), (.iconst 1, 1, 0, 0), (.iadd, 1, 0, 0), (.istore_n 3, 1, 0, 0), (.iload_n 3, 1, 0, 0), (.aload_n 0, 1, 0, 0), (.getfield 71, 3, 5, 0), zE, zE, (.if_icmp .ge 30, 3, 0, 0), zE, zE, (.iload_n 1, 1, 0, 0), (.aload_n 0, 1, 0, 0), (.iload_n 2, 1, 0, 0), (.invokevirtual 210, 3, 159, 0), zE, zE, (.aload_n 0, 1, 0, 0), (.iload_n 3, 1, 0, 0), (.invokevirtual 210, 3, 159, 0), zE, zE, (.if_icmp .ne 7, 3, 0, 0), zE, zE, (.iconst 1, 1, 0, 0), (.goto 4, 3, 0, 0), zE, zE, (.iconst 0, 1, 0, 0), (.iadd, 1, 0, 0), (.istore_n 1, 1, 0, 0), (.iinc 3 1, 3, 0, 0), zE, zE, (.goto (-32), 3, 0, 0), zE, zE, (.iinc 2 1, 3, 0, 0), zE, zE, (.goto (-50), 3, 0, 0), zE, zE, (.iload_n 1, 1, 0, 0), (.ireturn, 1, 0, 0)]
def E215 : List Ent := [(.aload_n 0, 1, 0, 0), (.iconst 0, 1, 0, 0), (.putfield 67, 3, 5, 10), zE, zE, (.aload_n 0, 1, 0, 0), (.iload_n 1, 1, 0, 0), (.invokevirtual 78, 3, 155, 0), zE, zE, (.ifCond .eq 7, 3, 0, 0), zE, zE, (.iconst 0, 1, 0, 0), (.goto 4, 3, 0, 0), zE, zE, (.iconst (-1), 1, 0, 0), (.iload_n 2, 1, 0, 0), (.iconst 2, 1, 0, 0), (.invokestatic 194, 3, 142, 0), zE, zE, (.istore 4, 2, 0, 0), zE, (.iload 4, 2, 0, 0), zE, (.ifCond .ne 13, 3, 0, 0), zE, zE, (.iload_n 3, 1, 0, 0), (.iconst 0, 1, 0, 0), (.bipush 99, 2, 0, 0), zE, (.invokestatic 198, 3, 134, 0), zE, zE, (.goto 5, 3, 0, 0), zE, zE, (.iload 4, 2, 0, 0), zE, (.istore 4, 2, 0, 0), zE, (.iload 4, 2, 0, 0), zE, (.ifCond .ge 10, 3, 0, 0), zE, zE, (.aload_n 0, 1, 0, 0), (.iload 4, 2, 0, 0), zE, (.invokevirtual 106, 3, 135, 0), zE, zE, (.ireturn, 1, 0, 0), (.aload_n 0, 1, 0, 0), (.invokevirtual 201, 3, 181, 0), zE, zE, (.iload_n 2, 1, 0, 0), (.ifCond .ne 12, 3, 0, 0), zE, zE, (.aload_n 0, 1, 0, 0), (.getfield 16, 3, 5, 3), zE, zE, (.iload_n 1, 1, 0, 0), (.iaload, 1, 0, 0), (.goto 23, 3, 0, 0), zE, zE, (.iload_n 2, 1, 0, 0), (.iconst 1, 1, 0, 0), (.if_icmp .ne 12, 3, 0, 0), zE, zE, (.aload_n 0, 1, 0, 0), (.getfield 19, 3, 5, 4), zE, zE, (.iload_n 1, 1, 0, 0), (.iaload, 1, 0, 0), (.goto 9, 3, 0, 0), zE, zE, (.aload_n 0, 1, 0, 0), (.getfield 22, 3, 5, 5), zE, zE, (.iload_n 1, 1, 0, 0), (.iaload, 1, 0, 0), (.istore 5, 2, 0, 0), zE, (.aload_n 0, 1, 0, 0), (.getfield 16, 3, 5, 3), zE, zE, (.iload_n 1, 1, 0, 0), (.iload_n 2, 1, 0, 0), (.ifCond .ne 7, 3, 0, 0), zE, zE, (.iload_n 3, 1, 0, 0), (.goto 9, 3, 0, 0), zE, zE, (.aload_n 0, 1, 0, 0), (.getfield 16, 3, 5, 3), zE, zE, (.iload_n 1, 1, 0, 0), (.iaload, 1, 0, 0), (.iastore, 1, 0, 0), (.aload_n 0, 1, 0, 0), (.getfield 19, 3, 5, 4), zE, zE, (.iload_n 1, 1, 0, 0), (.iload_n 2, 1, 0, 0), (.iconst 1, 1, 0, 0), (.if_icmp .ne 7, 3, 0, 0), zE, zE, (.iload_n 3, 1, 0, 0), (.goto 9, 3, 0, 0), zE, zE, (.aload_n 0, 1, 0, 0), (.getfield 19, 3, 5, 4), zE, zE, (.iload_n 1, 1, 0, 0), (.iaload, 1, 0, 0), (.iastore, 1, 0, 0), (.iload_n 2, 1, 0, 0), (.iconst 2, 1, 0, 0), (.if_icmp .ne 9, 3, 0, 0), zE, zE, (.aload_n 0, 1, 0, 0), (.iload_n 1, 1, 0, 0), (.iload_n 3, 1, 0, 0), (.invokevirtual 144, 3, 166, 0), zE, zE, (.iload 5, 2, 0, 0), zE, (.ireturn, 1, 0, 0)]
def E216 : List Ent := [(.aload_n 0, 1, 0, 0), (.iconst 0, 1, 0, 0), (.putfield 67, 3, 5, 10), zE, zE, (.iload_n 1, 1, 0, 0), (.i2l, 1, 0, 0), (.lconst 0, 1, 0, 0), (.lconst 1, 1, 0, 0), (.invokestatic 74, 3, 141, 0), zE, zE, (.ifCond .ne 10, 3, 0, 0), zE, zE, (.aload_n 0, 1, 0, 0), (.bipush (-2), 2, 0, 0), zE, (.invokevirtual 106, 3, 135, 0), zE, zE, (.ireturn, 1, 0, 0), (.aload_n 0, 1, 0, 0), (.getfield 71, 3, 5, 0), zE, zE, (.ifCond .ne 5, 3, 0, 0), zE, zE, (.iconst 0, 1, 0, 0), (.ireturn, 1, 0, 0), (.iload_n 1, 1, 0, 0), (.ifCond .ne 15, 3, 0, 0), zE, zE, (.aload_n 0, 1, 0, 0), (.invokevirtual 255, 3, 151, 0), zE, zE, (.aload_n 0, 1, 0, 0), (.getfield 71, 3, 5, 0), zE, zE, (.idiv, 1, 0, 0), (.goto 12, 3, 0, 0), zE, zE, (.aload_n 0, 1, 0, 0), (.invokevirtual 255, 3, 151, 0), zE, zE, (.aload_n 0, 1, 0, 0), (.getfield 71, 3, 5, 0), zE, zE, (.irem, 1, 0, 0), (.ireturn, 1, 0, 0)]
def E217 : List Ent := [(.aload_n 0, 1, 0, 0), (.iconst 0, 1, 0, 0), (.putfield 67, 3, 5, 10), zE, zE, (.iload_n 1, 1, 0, 0), (.iconst 0, 1, 0, 0), (.bipush 9, 2, 0, 0), zE, (.invokestatic 198, 3, 134, 0), zE, zE, (.iload_n 2, 1, 0, 0), (.iconst 1, 1, 0, 0), (.invokestatic 194, 3, 142, 0), zE, zE, (.istore_n 3, 1, 0, 0), (.iload_n 3, 1, 0, 0), (.ifCond .ge 9, 3, 0, 0), zE, zE, (.aload_n 0, 1, 0, 0), (.iload_n 3, 1, 0, 0), (.invokevirtual 106, 3, 135, 0), zE, zE, (.ireturn, 1, 0, 0), (.iconst 0, 1, 0, 0), (.istore 4, 2, 0, 0), zE, (.bipush (-9), 2, 0, 0), zE, (.istore 5, 2, 0, 0), zE, (.iconst 0, 1, 0, 0), (.istore 6, 2, 0, 0), zE, (.iload 6, 2, 0, 0), zE, (.aload_n 0, 1, 0, 0), (.getfield 71, 3, 5, 0), zE, zE, (.if_icmp .ge 55, 3, 0, 0), zE, zE, (.iload 4, 2, 0, 0), zE, (.iload_n 1, 1, 0, 0), (.aload_n 0, 1, 0, 0), (.iload 6, 2, 0, 0), zE, (.invokevirtual 86, 3, 145, 0), zE, zE, (.imul, 1, 0, 0), (.iadd, 1, 0, 0), (.istore 4, 2, 0, 0), zE, (.iload 5, 2, 0, 0), zE, (.ifCond .lt 22, 3, 0, 0), zE, zE, (.iload_n 1, 1, 0, 0), (.aload_n 0, 1, 0, 0), (.iload 6, 2, 0, 0), zE, (.invokevirtual 86, 3, 145, 0), zE, zE, (.imul, 1, 0, 0), (.iload_n 1, 1, 0, 0), (.aload_n 0, 1, 0, 0), (.iload 5, 2, 0, 0), zE, (.invokevirtual 86, 3, 145, 0), zE, zE, (.imul, 1, 0, 0), (.if_icmp .le 8, 3, 0, 0), zE, zE, (.iload 6, 2, 0, 0), zE, (.goto 5, 3, 0, 0), zE, zE, (.iload 5, 2, 0, 0), zE, (.istore 5, 2, 0, 0), zE, (.iinc 6 1, 3, 0, 0), zE, zE, (.goto (-58), 3, 0, 0), zE, zE, (.iload_n 2, 1, 0, 0), (.ifCond .ne 8, 3, 0, 0), zE, zE, (.iload 4, 2, 0, 0), zE, (.goto 5, 3, 0, 0), zE, zE, (.iload 5, 2, 0, 0), zE, (.ireturn, 1, 0, 0)]
def E218 : List Ent := [(.aload_n 0, 1, 0, 0), (.iconst 0, 1, 0, 0), (.putfield 67, 3, 5, 10), zE, zE, (.aload_n 0, 1, 0, 0), (.iconst 0, 1, 0, 0), (.putfield 112, 3, 5, 15), zE, zE, (.aload_n 0, 1, 0, 0), (.iconst 0, 1, 0, 0), (.putfield 115, 3, 5, 16), zE, zE, (.aload_n 0, 1, 0, 0), (.iconst 0, 1, 0, 0), (.putfield 130, 3, 5, 17), zE, zE, (.aload_n 0, 1, 0, 0), (.getfield 115, 3, 5, 16), zE, zE, (.ifCond .ne 28, 3, 0, 0), zE, zE, (.aload_n 0, 1, 0, 0), (.getfield 130, 3, 5, 17), zE, zE, (.ifCond .eq 14, 3, 0, 0), zE, zE, (.aload_n 0, 1, 0, 0), (.getfield 112, 3, 5, 15), zE, zE, (.aload_n 0, 1, 0, 0), (.getfield 109, 3, 5, 14), zE, zE, (.if_icmp .ge 10, 3, 0, 0), zE, zE, (.aload_n 0, 1, 0, 0), (.invokevirtual 156, 3, 206, 0), zE, zE, (.goto (-29), 3, 0, 0), zE, zE, (.aload_n 0, 1, 0, 0), (.iconst 0, 1, 0, 0), (.putfield 109, 3, 5, 14), zE, zE, (.aload_n 0, 1, 0, 0), (.getfield 115, 3, 5, 16), zE, zE, (.ifCond .eq 12, 3, 0, 0), zE, zE, (.sipush (-1000), 3, 0, 0), zE, zE, (.aload_n 0, 1, 0, 0), (.getfield 112, 3, 5, 15), zE, zE, (.isub, 1, 0, 0), (.ireturn, 1, 0, 0), (.aload_n 0, 1, 0, 0), (.invokevirtual 159, 3, 143, 0), zE, zE, (.iconst 0, 1, 0, 0), (.istore_n 1, 1, 0, 0), (.iload_n 1, 1, 0, 0), (.aload_n 0, 1, 0, 0), (.getfield 130, 3, 5, 17), zE, zE, (.if_icmp .ge 32, 3, 0, 0), zE, zE, (.aload_n 0, 1, 0, 0), (.iload_n 1, 1, 0, 0), (.invokevirtual 162, 3, 169, 0), zE, zE, (.ifCond .ne 18, 3, 0, 0), zE, zE, (.aload_n 0, 1, 0, 0), (.invokevirtual 165, 3, 140, 0), zE, zE, (.sipush (-2000), 3, 0, 0), zE, zE, (.aload_n 0, 1, 0, 0), (.getfield 43, 3, 5, 18), zE, zE, (.iload_n 1, 1, 0, 0), (.iaload, 1, 0, 0), (.isub, 1, 0, 0), (.ireturn, 1, 0, 0), (.iinc 1 1, 3, 0, 0), zE, zE, (.goto (-34), 3, 0, 0), zE, zE, (.aload_n 0, 1, 0, 0), (.iconst 0, 1, 0, 0), (.putfield 168, 3, 5, 29), zE, zE, (.aload_n 0, 1, 0, 0), (.getfield 130, 3, 5, 17), zE, zE, (.ireturn, 1, 0, 0)]
def E219 : List Ent := [(.aload_n 0, 1, 0, 0), (.iconst 0, 1, 0, 0), (.putfield 67, 3, 5, 10), zE, zE, (.aload_n 0, 1, 0, 0), (.iload_n 1, 1, 0, 0), (.invokevirtual 78, 3, 155, 0), zE, zE, (.ifCond .eq 13, 3, 0, 0), zE, zE, (.iload_n 2, 1, 0, 0), (.iconst 1, 1, 0, 0), (.bipush 12, 2, 0, 0), zE, (.invokestatic 198, 3, 134, 0), zE, zE, (.goto 4, 3, 0, 0), zE, zE, (.iconst (-1), 1, 0, 0), (.istore_n 3, 1, 0, 0), (.iload_n 3, 1, 0, 0), (.ifCond .ge 9, 3, 0, 0), zE, zE, (.aload_n 0, 1, 0, 0), (.iload_n 3, 1, 0, 0), (.invokevirtual 106, 3, 135, 0), zE, zE, (.ireturn, 1, 0, 0), (.bipush 9, 2, 0, 0), zE, (.istore 4, 2, 0, 0), zE, (.aload_n 0, 1, 0, 0), (.iload_n 1, 1, 0, 0), (.bipush (-9), 2, 0, 0), zE, (.iload_n 2, 1, 0, 0), (.invokevirtual 229, 3, 207, 0), zE, zE, (.istore 5, 2, 0, 0), zE, (.iconst 0, 1, 0, 0), (.istore 6, 2, 0, 0), zE, (.iload 6, 2, 0, 0), zE, (.aload_n 0, 1, 0, 0), (.getfield 71, 3, 5, 0), zE, zE, (.if_icmp .ge 61, 3, 0, 0), zE, zE, (.iload 6, 2, 0, 0), zE, (.iload_n 1, 1, 0, 0), (.if_icmp .ne 7, 3, 0, 0), zE, zE, (.iconst (-1), 1, 0, 0), (.goto 11, 3, 0, 0), zE, zE, (.aload_n 0, 1, 0, 0), (.iload_n 1, 1, 0, 0), (.iload 6, 2, 0, 0), zE, (.iload_n 2, 1, 0, 0), (.invokevirtual 229, 3, 207, 0), zE, zE, (.istore 7, 2, 0, 0), zE, (.iload 7, 2, 0, 0), zE, (.iload 5, 2, 0, 0), zE, (.if_icmp .le 8, 3, 0, 0), zE, zE, (.iload 6, 2, 0, 0), zE, (.goto 5, 3, 0, 0), zE, zE, (.iload 4, 2, 0, 0), zE, (.istore 4, 2, 0, 0), zE, (.iload 7, 2, 0, 0), zE, (.iload 5, 2, 0, 0), zE, (.if_icmp .le 8, 3, 0, 0), zE, zE, (.iload 7, 2, 0, 0), zE, (.goto 5, 3, 0, 0), zE, zE, (.iload 5, 2, 0, 0), zE, (.istore 5, 2, 0, 0), zE, (.iinc 6 1, 3, 0, 0), zE, zE, (.goto (-64), 3, 0, 0), zE, zE, (.aload_n 0, 1, 0, 0), (.getfield 71, 3, 5, 0), zE, zE, (.iconst 1, 1, 0, 0), (.if_icmp .ne 8, 3, 0, 0), zE, zE, (.bipush (-9), 2, 0, 0), zE, (.goto 5, 3, 0, 0), zE, zE, (.iload 4, 2, 0, 0), zE, (.ireturn, 1, 0, 0)]
def E220 : List Ent := [(.aload_n 0, 1, 0, 0), (.iconst 0, 1, 0, 0), (.putfield 67, 3, 5, 10), zE, zE, (.aload_n 0, 1, 0, 0), (.iload_n 1, 1, 0, 0), (.invokevirtual 78, 3, 155, 0), zE, zE, (.ifCond .ne 9, 3, 0, 0), zE, zE, (.aload_n 0, 1, 0, 0), (.iconst (-1), 1, 0, 0), (.invokevirtual 106, 3, 135, 0), zE, zE, (.ireturn, 1, 0, 0), (.iconst 0, 1, 0, 0), (.istore_n 2, 1, 0, 0), (.iconst 0, 1, 0, 0), (.istore_n 3, 1, 0, 0), (.iload_n 3, 1, 0, 0), (.aload_n 0, 1, 0, 0), (.getfield 71, 3, 5, 0), zE, zE, (.if_icmp .ge 27, 3, 0, 0), zE, zE, (.iload_n 2, 1, 0, 0), (.aload_n 0, 1, 0, 0), (.getfield 31, 3, 5, 8), zE, zE, (.iload_n 3, 1, 0, 0), (.iaload, 1, 0, 0), (.iload_n 1, 1, 0, 0), (.if_icmp .ne 7, 3, 0, 0), zE, zE, (.iconst 1, 1, 0, 0), (.goto 4, 3, 0, 0), zE, zE, (.iconst 0, 1, 0, 0), (.iadd, 1, 0, 0), (.istore_n 2, 1, 0, 0), (.iinc 3 1, 3, 0, 0), zE, zE, (.goto (-29), 3, 0, 0), zE, zE, (.iload_n 2, 1, 0, 0), (.ireturn, 1, 0, 0)]
def E221 : List Ent := [(.aload_n 0, 1, 0, 0), (.iconst 0, 1, 0, 0), (.putfield 67, 3, 5, 10), zE, zE, (.aload_n 0, 1, 0, 0), (.iload_n 1, 1, 0, 0), (.iload_n 2, 1, 0, 0), (.invokevirtual 147, 3, 156, 0), zE, zE, (.ifCond .ne 9, 3, 0, 0), zE, zE, (.aload_n 0, 1, 0, 0), (.iconst (-1), 1, 0, 0), (.invokevirtual 106, 3, 135, 0), zE, zE, (.ireturn, 1, 0, 0), (.aload_n 0, 1, 0, 0), (.invokevirtual 201, 3, 181, 0), zE, zE, (.aload_n 0, 1, 0, 0), (.getfield 31, 3, 5, 8), zE, zE, (.iload_n 1, 1, 0, 0), (.aload_n 0, 1, 0, 0), (.getfield 31, 3, 5, 8), zE, zE, (.iload_n 1, 1, 0, 0), (.iaload, 1, 0, 0), (.iload_n 2, 1, 0, 0), (.if_icmp .ne 8, 3, 0, 0), zE, zE, (.bipush (-9), 2, 0, 0), zE, (.goto 4, 3, 0, 0), zE, zE, (.iload_n 2, 1, 0, 0), (.iastore, 1, 0, 0), (.aload_n 0, 1, 0, 0), (.getfield 31, 3, 5, 8), zE, zE, (.iload_n 1, 1, 0, 0), (.iaload, 1, 0, 0), (.iload_n 2, 1, 0, 0), (.if_icmp .ne 7, 3, 0, 0), zE, zE, (.iconst 1, 1, 0, 0), (.goto 4, 3, 0, 0), zE, zE, (.iconst 0, 1, 0, 0), (.ireturn, 1, 0, 0)]
def E222 : List Ent := [(.aload_n 0, 1, 0, 0), (.iconst 0, 1, 0, 0), (.putfield 67, 3, 5, 10), zE, zE, (.iconst 0, 1, 0, 0), (.istore_n 1, 1, 0, 0), (.iconst 0, 1, 0, 0), (.istore_n 2, 1, 0, 0), (.iload_n 2, 1, 0, 0), (.aload_n 0, 1, 0, 0), (.getfield 71, 3, 5, 0), zE, zE, (.if_icmp .ge 37, 3, 0, 0), zE, zE, (.iload_n 1, 1, 0, 0), (.aload_n 0, 1, 0, 0), (.getfield 22, 3, 5, 5), zE, zE, (.iload_n 2, 1, 0, 0), (.iaload, 1, 0, 0), (.ifCond .le 18, 3, 0, 0), zE, zE, (.aload_n 0, 1, 0, 0), (.getfield 25, 3, 5, 6), zE, zE, (.iload_n 2, 1, 0, 0), (.iaload, 1, 0, 0), (.ifCond .ne 9, 3, 0, 0), zE, zE, (.iconst 1, 1, 0, 0), (.iload_n 2, 1, 0, 0), (.ishl, 1, 0, 0), (.goto 4, 3, 0, 0), zE, zE, (.iconst 0, 1, 0, 0), (.ior, 1, 0, 0), (.istore_n 1, 1, 0, 0), (.iinc 2 1, 3, 0, 0), zE, zE, (.goto (-39), 3, 0, 0), zE, zE, (.iload_n 1, 1, 0, 0), (.ireturn, 1, 0, 0)]
def E223 : List Ent := [(.aload_n 0, 1, 0, 0), (.iconst 0, 1, 0, 0), (.putfield 67, 3, 5, 10), zE, zE, (.aload_n 0, 1, 0, 0), (.iload_n 1, 1, 0, 0), (.invokevirtual 78, 3, 155, 0), zE, zE, (.ifCond .eq 7, 3, 0, 0), zE, zE, (.iconst 0, 1, 0, 0), (.goto 4, 3, 0, 0), zE, zE, (.iconst (-1), 1, 0, 0), (.iload_n 2, 1, 0, 0), (.iconst 3, 1, 0, 0), (.invokestatic 194, 3, 142, 0), zE, zE, (.istore_n 3, 1, 0, 0), (.iload_n 3, 1, 0, 0), (.ifCond .ge 9, 3, 0, 0), zE, zE, (.aload_n 0, 1, 0, 0), (.iload_n 3, 1, 0, 0), (.invokevirtual 106, 3, 135, 0), zE, zE, (.ireturn, 1, 0, 0), (.iconst 0, 1, 0, 0), (.istore 4, 2, 0, 0), zE, (.iconst 0, 1, 0, 0), (.istore 5, 2, 0, 0), zE, (.bipush (-9), 2, 0, 0), zE, (.istore 6, 2, 0, 0), zE, (.aload_n 0, 1, 0, 0), (.invokevirtual 159, 3, 143, 0), zE, zE, (.iconst 0, 1, 0, 0), (.istore 7, 2, 0, 0), zE, (.iload 7, 2, 0, 0), zE, (.iload_n 2, 1, 0, 0), (.iconst 2, 1, 0, 0), (.if_icmp .ge 8, 3, 0, 0), zE, zE, (.bipush 100, 2, 0, 0), zE, (.goto 15, 3, 0, 0), zE, zE, (.iload_n 2, 1, 0, 0), (.iconst 2, 1, 0, 0), (.if_icmp .ne 8, 3, 0, 0), zE, zE, (.bipush 6, 2, 0, 0), zE, (.goto 5, 3, 0, 0), zE, zE, (.bipush 10, 2, 0, 0), zE, (.if_icmp .ge 139, 3, 0, 0), zE, zE, (.aload_n 0, 1, 0, 0), (.getfield 16, 3, 5, 3), zE, zE, (.iload_n 1, 1, 0, 0), (.iload_n 2, 1, 0, 0), (.iconst 2, 1, 0, 0), (.if_icmp .ge 8, 3, 0, 0), zE, zE, (.iload 7, 2, 0, 0), zE, (.goto 9, 3, 0, 0), zE, zE, (.aload_n 0, 1, 0, 0), (.getfield 16, 3, 5, 3), zE, zE, (.iload_n 1, 1, 0, 0), (.iaload, 1, 0, 0), (.iastore, 1, 0, 0), (.aload_n 0, 1, 0, 0), (.getfield 7, 3, 5, 1), zE, zE, (.iload_n 1, 1, 0, 0), (.iload_n 2, 1, 0, 0), (.iconst 2, 1, 0, 0), (.if_icmp .ne 8, 3, 0, 0), zE, zE, (.iload 7, 2, 0, 0), zE, (.goto 9, 3, 0, 0), zE, zE, (.aload_n 0, 1, 0, 0), (.getfield 7, 3, 5, 1), zE, zE, (.iload_n 1, 1, 0, 0), (.iaload, 1, 0, 0), (.iastore, 1, 0, 0), (.aload_n 0, 1, 0, 0), (.getfield 13, 3, 5, 2), zE, zE, (.iload_n 1, 1, 0, 0), (.iload_n 2, 1, 0, 0), (.iconst 3, 1, 0, 0), (.if_icmp .ne 8, 3, 0, 0), zE, zE, (.iload 7, 2, 0, 0), zE, (.goto 9, 3, 0, 0), zE, zE, (.aload_n 0, 1, 0, 0), (.getfield 13, 3, 5, 2), zE, zE, (.iload_n 1, 1, 0, 0), (.iaload, 1, 0, 0), (.iastore, 1, 0, 0), (.aload_n 0, 1, 0, 0), (.iload_n 1, 1, 0, 0), (.invokevirtual 235, 3, 191, 0), zE, zE, (.istore 8, 2, 0, 0), zE, (.iload 4, 2, 0, 0), zE, (.iload 8, 2, 0, 0), zE, (.ifCond .eq 15, 3, 0, 0), zE, zE, (.iload_n 2, 1, 0, 0), (.iconst 1, 1, 0, 0), (.if_icmp .le 10, 3, 0, 0), zE, zE, (.iconst 1, 1, 0, 0), (.iload 7, 2, 0, 0), zE, (.ishl, 1, 0, 0), (.goto 4, 3, 0, 0), zE, zE, (.iconst 0, 1, 0, 0), (.ior, 1, 0, 0), (.istore 4, 2, 0, 0), zE, (.iload 5, 2, 0, 0), zE, (.iload 8, 2, 0, 0), zE, (.ifCond .eq 7, 3, 0, 0), zE, zE, (.iconst 1, 1, 0, 0), (.goto 4, 3, 0, 0), zE, zE, (.iconst 0, 1, 0, 0), (.iadd, 1, 0, 0), (.istore 5, 2, 0, 0), zE, (.iload 8, 2, 0, 0), zE, (.ifCond .eq 13, 3, 0, 0), zE, zE, (.iload 6, 2, 0, 0), zE, (.ifCond .ge 8, 3, 0, 0), zE, zE, (.iload 7, 2, 0, 0), zE, (.goto 5, 3, 0, 0), zE, zE, (.iload 6, 2, 0, 0), zE, (.istore 6, 2, 0, 0), zE, (.iinc 7 1, 3, 0, 0), zE, zE, (.goto (-160), 3, 0, 0), zE, zE, (.aload_n 0, 1, 0, 0), (.invokevirtual 165, 3, 140, 0), zE, zE, (.iload_n 2, 1, 0, 0), (.ifCond .ne 8, 3, 0, 0), zE, zE, (.iload 5, 2, 0, 0), zE, (.goto 15, 3, 0, 0), zE, zE, (.iload_n 2, 1, 0, 0), (.iconst 1, 1, 0, 0), (.if_icmp .ne 8, 3, 0, 0), zE, zE, (.iload 6, 2, 0, 0), zE, (.goto 5, 3, 0, 0), zE, zE, (.iload 4, 2, 0, 0), zE, (.ireturn, 1, 0, 0)]
def E224 : List Ent := [(.aload_n 0, 1, 0, 0), (.iconst 0, 1, 0, 0), (.putfield 67, 3, 5, 10), zE, zE, (.aload_n 0, 1, 0, 0), (.iload_n 1, 1, 0, 0), (.invokevirtual 78, 3, 155, 0), zE, zE, (.ifCond .ne 9, 3, 0, 0), zE, zE, (.aload_n 0, 1, 0, 0), (.iconst (-1), 1, 0, 0), (.invokevirtual 106, 3, 135, 0), zE, zE, (.ireturn, 1, 0, 0), (.aload_n 0, 1, 0, 0), (.getfield 16, 3, 5, 3), zE, zE, (.iload_n 1, 1, 0, 0), (.iaload, 1, 0, 0), (.istore_n 2, 1, 0, 0), (.iconst 0, 1, 0, 0), (.istore_n 3, 1, 0, 0), (.iconst 0, 1, 0, 0), (.istore 4, 2, 0, 0), zE, (.iload 4, 2, 0, 0), zE, (.aload_n 0, 1, 0, 0), (.getfield 71, 3, 5, 0), zE, zE, (.if_icmp .ge 62, 3, 0, 0), zE, zE, (.iload 4, 2, 0, 0), zE, (.iload_n 1, 1, 0, 0), (.if_icmp .eq 50, 3, 0, 0), zE, zE, (.aload_n 0, 1, 0, 0), (.getfield 16, 3, 5, 3), zE, zE, (.iload_n 1, 1, 0, 0), (.sipush 999, 3, 0, 0), zE, zE, (.iload_n 2, 1, 0, 0), (.aload_n 0, 1, 0, 0), (.getfield 16, 3, 5, 3), zE, zE, (.iload 4, 2, 0, 0), zE, (.iaload, 1, 0, 0), (.iadd, 1, 0, 0), (.invokestatic 92, 3, 144, 0), zE, zE, (.iastore, 1, 0, 0), (.iload_n 3, 1, 0, 0), (.aload_n 0, 1, 0, 0), (.iload_n 1, 1, 0, 0), (.invokevirtual 235, 3, 191, 0), zE, zE, (.ifCond .eq 10, 3, 0, 0), zE, zE, (.iconst 1, 1, 0, 0), (.iload 4, 2, 0, 0), zE, (.ishl, 1, 0, 0), (.goto 4, 3, 0, 0), zE, zE, (.iconst 0, 1, 0, 0), (.ior, 1, 0, 0), (.istore_n 3, 1, 0, 0), (.aload_n 0, 1, 0, 0), (.getfield 16, 3, 5, 3), zE, zE, (.iload_n 1, 1, 0, 0), (.iload_n 2, 1, 0, 0), (.iastore, 1, 0, 0), (.iinc 4 1, 3, 0, 0), zE, zE, (.goto (-65), 3, 0, 0), zE, zE, (.iload_n 3, 1, 0, 0), (.ireturn, 1, 0, 0)]
def E225 : List Ent := [(.new 7, 3, 0, 0), zE, zE, (.dup, 1, 0, 0), (.invokespecial 9, 3, 97, 0), zE, zE, (.astore_n 1, 1, 0, 0), (.new 10, 3, 5, 0), zE, zE, (.dup, 1, 0, 0), (.invokespecial 12, 3, 189, 0), zE, zE, (.astore_n 2, 1, 0, 0), (.iconst 0, 1, 0, 0), (.istore_n 3, 1, 0, 0), (.iload_n 3, 1, 0, 0), (.aload_n 0, 1, 0, 0), (.arraylength, 1, 0, 0), (.iconst 5, 1, 0, 0), (.isub, 1, 0, 0), (.if_icmp .gt 1502, 3, 0, 0), zE, zE, (.aload_n 0, 1, 0, 0), (.iload_n 3, 1, 0, 0), (.iaload, 1, 0, 0), (.bipush 63, 2, 0, 0), zE, (.iand, 1, 0, 0), (.tableswitch 1487 0 46 #[204, 227, 240, 273, 316, 359, 392, 415, 458, 481, 504, 517, 560, 593, 616, 639, 682, 715, 758, 781, 824, 857, 890, 923, 946, 979, 1002, 1035, 1058, 1091, 1145, 1168, 1191, 1215, 1228, 1251, 1274, 1297, 1310, 1333, 1346, 1369, 1382, 1395, 1438, 1451, 1464], 204, 0, 0), zE, zE, zE, zE, zE, zE, zE, zE, zE, zE, zE, zE, zE, zE, zE, zE, zE, zE, zE, zE, zE, zE, zE, zE, zE, zE, zE, zE, zE, zE, zE, zE, zE, zE, zE, zE, zE, zE, zE, zE, zE, zE, zE, zE, zE, zE, zE, zE, zE, zE, zE, zE, zE, zE, zE, zE, zE, zE, zE, zE, zE, zE, zE, zE, zE, zE, zE, zE, zE, zE, zE, zE, zE, zE, zE, zE, zE, zE, zE, zE, zE, zE, zE, zE, zE, zE, zE, zE, zE, zE, zE, zE, zE, zE, zE, zE, zE, zE, zE, zE, zE, zE, zE, zE, zE, zE, zE, zE, zE, zE, zE, zE, zE, zE, zE, zE, zE, zE, zE, zE, zE, zE, zE, zE, zE, zE, zE, zE, zE, zE, zE, zE, zE, zE, zE, zE, zE, zE, zE, zE, zE, zE, zE, zE, zE, zE, zE, zE, zE, zE, zE, zE, zE, zE, zE, zE, zE, zE, zE, zE, zE, zE, zE, zE, zE, zE, zE, zE, zE, zE, zE, zE, zE, zE, zE, zE, zE, zE, zE, zE, zE, zE, zE, zE, zE, zE, zE, zE, zE, zE, zE, zE, zE, zE, zE, zE, zE, zE, zE, zE, zE, zE, zE, (.aload_n 1, 1, 0, 0), (.aload_n 0, 1, 0, 0), (.iload_n 3, 1, 0, 0), (.iconst 1, 1, 0, 0), (.iadd, 1, 0, 0), (.iaload, 1, 0, 0), (.invokevirtual 13, 3, 81, 0), zE, zE, (.aload_n 2, 1, 0, 0), (.aload_n 0, 1, 0, 0), (.iload_n 3, 1, 0, 0), (.iconst 1, 1, 0, 0), (.iadd, 1, 0, 0), (.iaload, 1, 0, 0), (.invokevirtual 17, 3, 178, 0), zE, zE, (.if_icmp .eq 1265, 3, 0, 0), zE, zE, (.iconst 0, 1, 0, 0), (.ireturn, 1, 0, 0), (.aload_n 1, 1, 0, 0), (.invokevirtual 18, 3, 127, 0), zE, zE, (.aload_n 2, 1, 0, 0), (.invokevirtual 22, 3, 218, 0), zE, zE, (.if_icmp .eq 1252, 3, 0, 0), zE, zE, (.iconst 0, 1, 0, 0), (.ireturn, 1, 0, 0), (.aload_n 1, 1, 0, 0), (.aload_n 0, 1, 0, 0), (.iload_n 3, 1, 0, 0), (.iconst 1, 1, 0, 0), (.iadd, 1, 0, 0), (.iaload, 1, 0, 0), (.aload_n 0, 1, 0, 0), (.iload_n 3, 1, 0, 0), (.iconst 2, 1, 0, 0), (.iadd, 1, 0, 0), (.iaload, 1, 0, 0), (.invokevirtual 23, 3, 116, 0), zE, zE, (.aload_n 2, 1, 0, 0), (.aload_n 0, 1, 0, 0), (.iload_n 3, 1, 0, 0), (.iconst 1, 1, 0, 0), (.iadd, 1, 0, 0), (.iaload, 1, 0, 0), (.aload_n 0, 1, 0, 0), (.iload_n 3, 1, 0, 0), (.iconst 2, 1, 0, 0), (.iadd, 1, 0, 0), (.iaload, 1, 0, 0), (.invokevirtual 27, 3, 203, 0), zE, zE, (.if_icmp .eq 1219, 3, 0, 0), zE, zE, (.iconst 0, 1, 0, 0), (.ireturn, 1, 0, 0), (.aload_n 1, 1, 0, 0), (.aload_n 0, 1, 0, 0), (.iload_n 3, 1, 0, 0), (.iconst 1, 1, 0, 0), (.iadd, 1, 0, 0), (.iaload, 1, 0, 0), (.aload_n 0, 1, 0, 0), (.iload_n 3, 1, 0, 0), (.iconst 2, 1, 0, 0), (.iadd, 1, 0, 0), (.iaload, 1, 0, 0), (.aload_n 0, 1, 0, 0), (.iload_n 3, 1, 0, 0), (.iconst 3, 1, 0, 0), (.iadd, 1, 0, 0), (.iaload, 1, 0, 0), (.invokevirtual 28, 3, 115, 0), zE, zE, (.aload_n 2, 1, 0, 0), (.aload_n 0, 1, 0, 0), (.iload_n 3, 1, 0, 0), (.iconst 1, 1, 0, 0), (.iadd, 1, 0, 0), (.iaload, 1, 0, 0), (.aload_n 0, 1, 0, 0), (.iload_n 3, 1, 0, 0), (.iconst 2, 1, 0, 0), (.iadd, 1, 0, 0), (.iaload, 1, 0, 0), (.aload_n 0, 1, 0, 0), (.iload_n 3, 1, 0, 0), (.iconst 3, 1, 0, 0), (.iadd, 1, 0, 0), (.iaload, 1, 0, 0), (.invokevirtual 32, 3, 202, 0), zE, zE, (.if_icmp .eq 1176, 3, 0, 0), zE, zE, (.iconst 0, 1, 0, 0), (.ireturn, 1, 0, 0), (.aload_n 1, 1, 0, 0), (.aload_n 0, 1, 0, 0), (.iload_n 3, 1, 0, 0), (.iconst 1, 1, 0, 0), (.iadd, 1, 0, 0), (.iaload, 1, 0, 0), (.aload_n 0, 1, 0, 0), (.iload_n 3, 1, 0, 0), (.iconst 2, 1, 0, 0), (.iadd, 1, 0, 0), (.iaload, 1, 0, 0), (.aload_n 0, 1, 0, 0), (.iload_n 3, 1, 0, 0), (.iconst 3, 1, 0, 0), (.iadd, 1, 0, 0), (.iaload, 1, 0, 0), (.invokevirtual 33, 3, 124, 0), zE, zE, (.aload_n 2, 1, 0, 0), (.aload_n 0, 1, 0, 0), (.iload_n 3, 1, 0, 0), (.iconst 1, 1, 0, 0), (.iadd, 1, 0, 0), (.iaload, 1, 0, 0), (.aload_n 0, 1, 0, 0), (.iload_n 3, 1, 0, 0), (.iconst 2, 1, 0, 0), (.iadd, 1, 0, 0), (.iaload, 1, 0, 0), (.aload_n 0, 1, 0, 0), (.iload_n 3, 1, 0, 0), (.iconst 3, 1, 0, 0), (.iadd, 1, 0, 0), (.iaload, 1, 0, 0), (.invokevirtual 36, 3, 215, 0), zE, zE, (.if_icmp .eq 1133, 3, 0, 0), zE, zE, (.iconst 0, 1, 0, 0), (.ireturn, 1, 0, 0), (.aload_n 1, 1, 0, 0), (.aload_n 0, 1, 0, 0), (.iload_n 3, 1, 0, 0), (.iconst 1, 1, 0, 0), (.iadd, 1, 0, 0), (.iaload, 1, 0, 0), (.aload_n 0, 1, 0, 0), (.iload_n 3, 1, 0, 0), (.iconst 2, 1, 0, 0), (.iadd, 1, 0, 0), (.iaload, 1, 0, 0), (.invokevirtual 37, 3, 130, 0), zE, zE, (.aload_n 2, 1, 0, 0), (.aload_n 0, 1, 0, 0), (.iload_n 3, 1, 0, 0), (.iconst 1, 1, 0, 0), (.iadd, 1, 0, 0), (.iaload, 1, 0, 0), (.aload_n 0, 1, 0, 0), (.iload_n 3, 1, 0, 0), (.iconst 2, 1, 0, 0), (.iadd, 1, 0, 0), (.iaload, 1, 0, 0), (.invokevirtual 40, 3, 221, 0), zE, zE, (.if_icmp .eq 1100, 3, 0, 0), zE, zE, (.iconst 0, 1, 0, 0), (.ireturn, 1, 0, 0), (.aload_n 1, 1, 0, 0), (.aload_n 0, 1, 0, 0), (.iload_n 3, 1, 0, 0), (.iconst 1, 1, 0, 0), (.iadd, 1, 0, 0), (.iaload, 1, 0, 0), (.invokevirtual 41, 3, 103, 0), zE, zE, (.aload_n 2, 1, 0, 0), (.aload_n 0, 1, 0, 0), (.iload_n 3, 1, 0, 0), (.iconst 1, 1, 0, 0), (.iadd, 1, 0, 0), (.iaload, 1, 0, 0), (.invokevirtual 44, 3, 194, 0), zE, zE, (.if_icmp .eq 1077, 3, 0, 0), zE, zE, (.iconst 0, 1, 0, 0), (.ireturn, 1, 0, 0), (.aload_n 1, 1, 0, 0), (.aload_n 0, 1, 0, 0), (.iload_n 3, 1, 0, 0), (.iconst 1, 1, 0, 0), (.iadd, 1, 0, 0), (.iaload, 1, 0, 0), (.aload_n 0, 1, 0, 0), (.iload_n 3, 1, 0, 0), (.iconst 2, 1, 0, 0), (.iadd, 1, 0, 0), (.iaload, 1, 0, 0), (.aload_n 0, 1, 0, 0), (.iload_n 3, 1, 0, 0), (.iconst 3, 1, 0, 0), (.iadd, 1, 0, 0), (.iaload, 1, 0, 0), (.invokevirtual 45, 3, 86, 0), zE, zE, (.aload_n 2, 1, 0, 0), (.aload_n 0, 1, 0, 0), (.iload_n 3, 1, 0, 0), (.iconst 1, 1, 0, 0), (.iadd, 1, 0, 0), (.iaload, 1, 0, 0), (.aload_n 0, 1, 0, 0), (.iload_n 3, 1, 0, 0), (.iconst 2, 1, 0, 0), (.iadd, 1, 0, 0), (.iaload, 1, 0, 0), (.aload_n 0, 1, 0, 0), (.iload_n 3, 1, 0, 0), (.iconst 3, 1, 0, 0), (.iadd, 1, 0, 0), (.iaload, 1, 0, 0), (.invokevirtual 48, 3, 182, 0), zE, zE, (.if_icmp .eq 1034, 3, 0, 0), zE, zE, (.iconst 0, 1, 0, 0), (.ireturn, 1, 0, 0), (.aload_n 1, 1, 0, 0), (.aload_n 0, 1, 0, 0), (.iload_n 3, 1, 0, 0), (.iconst 1, 1, 0, 0), (.iadd, 1, 0, 0), (.iaload, 1, 0, 0), (.invokevirtual 49, 3, 93, 0), zE, zE, (.aload_n 2, 1, 0, 0), (.aload_n 0, 1, 0, 0), (.iload_n 3, 1, 0, 0), (.iconst 1, 1, 0, 0), (.iadd, 1, 0, 0), (.iaload, 1, 0, 0), (.invokevirtual 52, 3, 187, 0), zE, zE, (.if_icmp .eq 1011, 3, 0, 0), zE, zE, (.iconst 0, 1, 0, 0), (.ireturn, 1, 0, 0), (.aload_n 1, 1, 0, 0), (.aload_n 0, 1, 0, 0), (.iload_n 3, 1, 0, 0), (.iconst 1, 1, 0, 0), (.iadd, 1, 0, 0), (.iaload, 1, 0, 0), (.invokevirtual 53, 3, 113, 0), zE, zE, (.aload_n 2, 1, 0, 0), (.aload_n 0, 1, 0, 0), (.iload_n 3, 1, 0, 0), (.iconst 1, 1, 0, 0), (.iadd, 1, 0, 0), (.iaload, 1, 0, 0), (.invokevirtual 56, 3, 201, 0), zE, zE, (.if_icmp .eq 988, 3, 0, 0), zE, zE, (.iconst 0, 1, 0, 0), (.ireturn, 1, 0, 0), (.aload_n 1, 1, 0, 0), (.invokevirtual 57, 3, 65, 0), zE, zE, (.aload_n 2, 1, 0, 0), (.invokevirtual 60, 3, 157, 0), zE, zE, (.if_icmp .eq 975, 3, 0, 0), zE, zE, (.iconst 0, 1, 0, 0), (.ireturn, 1, 0, 0), (.aload_n 1, 1, 0, 0), (.aload_n 0, 1, 0, 0), (.iload_n 3, 1, 0, 0), (.iconst 1, 1, 0, 0), (.iadd, 1, 0, 0), (.iaload, 1, 0, 0), (.aload_n 0, 1, 0, 0), (.iload_n 3, 1, 0, 0), (.iconst 2, 1, 0, 0), (.iadd, 1, 0, 0), (.iaload, 1, 0, 0), (.aload_n 0, 1, 0, 0), (.iload_n 3, 1, 0, 0), (.iconst 3, 1, 0, 0), (.iadd, 1, 0, 0), (.iaload, 1, 0, 0), (.invokevirtual 61, 3, 69, 0), zE, zE, (.aload_n 2, 1, 0, 0), (.aload_n 0, 1, 0, 0), (.iload_n 3, 1, 0, 0), (.iconst 1, 1, 0, 0), (.iadd, 1, 0, 0), (.iaload, 1, 0, 0), (.aload_n 0, 1, 0, 0), (.iload_n 3, 1, 0, 0), (.iconst 2, 1, 0, 0), (.iadd, 1, 0, 0), (.iaload, 1, 0, 0), (.aload_n 0, 1, 0, 0), (.iload_n 3, 1, 0, 0), (.iconst 3, 1, 0, 0), (.iadd, 1, 0, 0), (.iaload, 1, 0, 0), (.invokevirtual 64, 3, 158, 0), zE, zE, (.if_icmp .eq 932, 3, 0, 0), zE, zE, (.iconst 0, 1, 0, 0), (.ireturn, 1, 0, 0), (.aload_n 1, 1, 0, 0), (.aload_n 0, 1, 0, 0), (.iload_n 3, 1, 0, 0), (.iconst 1, 1, 0, 0), (.iadd, 1, 0, 0), (.iaload, 1, 0, 0), (.aload_n 0, 1, 0, 0), (.iload_n 3, 1, 0, 0), (.iconst 2, 1, 0, 0), (.iadd, 1, 0, 0), (.iaload, 1, 0, 0), (.invokevirtual 65, 3, 63, 0), zE, zE, (.aload_n 2, 1, 0, 0), (.aload_n 0, 1, 0, 0), (.iload_n 3, 1, 0, 0), (.iconst 1, 1, 0, 0), (.iadd, 1, 0, 0), (.iaload, 1, 0, 0), (.aload_n 0, 1, 0, 0), (.iload_n 3, 1, 0, 0), (.iconst 2, 1, 0, 0), (.iadd, 1, 0, 0), (.iaload, 1, 0, 0), (.invokevirtual 68, 3, 150, 0), zE, zE, (.if_icmp .eq 899, 3, 0, 0), zE, zE, (.iconst 0, 1, 0, 0), (.ireturn, 1, 0, 0), (.aload_n 1, 1, 0, 0), (.aload_n 0, 1, 0, 0), (.iload_n 3, 1, 0, 0), (.iconst 1, 1, 0, 0), (.iadd, 1, 0, 0), (.iaload, 1, 0, 0), (.invokevirtual 69, 3, 101, 0), zE, zE, (.aload_n 2, 1, 0, 0), (.aload_n 0, 1, 0, 0), (.iload_n 3, 1, 0, 0), (.iconst 1, 1, 0, 0), (.iadd, 1, 0, 0), (.iaload, 1, 0, 0), (.invokevirtual 72, 3, 193, 0), zE, zE, (.if_icmp .eq 876, 3, 0, 0), zE, zE, (.iconst 0, 1, 0, 0), (.ireturn, 1, 0, 0), (.aload_n 1, 1, 0, 0), (.aload_n 0, 1, 0, 0), (.iload_n 3, 1, 0, 0), (.iconst 1, 1, 0, 0), (.iadd, 1, 0, 0), (.iaload, 1, 0, 0), (.invokevirtual 73, 3, 106, 0), zE, zE, (.aload_n 2, 1, 0, 0), (.aload_n 0, 1, 0, 0), (.iload_n 3, 1, 0, 0), (.iconst 1, 1, 0, 0), (.iadd, 1, 0, 0), (.iaload, 1, 0, 0), (.invokevirtual 76, 3, 196, 0), zE, zE, (.if_icmp .eq 853, 3, 0, 0), zE, zE, (.iconst 0, 1, 0, 0), (.ireturn, 1, 0, 0), (.aload_n 1, 1, 0, 0), (.aload_n 0, 1, 0, 0), (.iload_n 3, 1, 0, 0), (.iconst 1, 1, 0, 0), (.iadd, 1, 0, 0), (.iaload, 1, 0, 0), (.aload_n 0, 1, 0, 0), (.iload_n 3, 1, 0, 0), (.iconst 2, 1, 0, 0), (.iadd, 1, 0, 0), (.iaload, 1, 0, 0), (.aload_n 0, 1, 0, 0), (.iload_n 3, 1, 0, 0), (.iconst 3, 1, 0, 0), (.iadd, 1, 0, 0), (.iaload, 1, 0, 0), (.invokevirtual 77, 3, 85, 0), zE, zE, (.aload_n 2, 1, 0, 0), (.aload_n 0, 1, 0, 0), (.iload_n 3, 1, 0, 0), (.iconst 1, 1, 0, 0), (.iadd, 1, 0, 0), (.iaload, 1, 0, 0), (.aload_n 0, 1, 0, 0), (.iload_n 3, 1, 0, 0), (.iconst 2, 1, 0, 0), (.iadd, 1, 0, 0), (.iaload, 1, 0, 0), (.aload_n 0, 1, 0, 0), (.iload_n 3, 1, 0, 0), (.iconst 3, 1, 0, 0), (.iadd, 1, 0, 0), (.iaload, 1, 0, 0), (.invokevirtual 80, 3, 180, 0), zE, zE, (.if_icmp .eq 810, 3, 0, 0), zE, zE, (.iconst 0, 1, 0, 0), (.ireturn, 1, 0, 0), (.aload_n 1, 1, 0, 0), (.aload_n 0, 1, 0, 0), (.iload_n 3, 1, 0, 0), (.iconst 1, 1, 0, 0), (.iadd, 1, 0, 0), (.iaload, 1, 0, 0), (.aload_n 0, 1, 0, 0), (.iload_n 3, 1, 0, 0), (.iconst 2, 1, 0, 0), (.iadd, 1, 0, 0), (.iaload, 1, 0, 0), (.invokevirtual 81, 3, 71, 0), zE, zE, (.aload_n 2, 1, 0, 0), (.aload_n 0, 1, 0, 0), (.iload_n 3, 1, 0, 0), (.iconst 1, 1, 0, 0), (.iadd, 1, 0, 0), (.iaload, 1, 0, 0), (.aload_n 0, 1, 0, 0), (.iload_n 3, 1, 0, 0), (.iconst 2, 1, 0, 0), (.iadd, 1, 0, 0), (.iaload, 1, 0, 0), (.invokevirtual 84, 3, 161, 0), zE, zE, (.if_icmp .eq 777, 3, 0, 0), zE, zE, (.iconst 0, 1, 0, 0), (.ireturn, 1, 0, 0), (.aload_n 1, 1, 0, 0), (.aload_n 0, 1, 0, 0), (.iload_n 3, 1, 0, 0), (.iconst 1, 1, 0, 0), (.iadd, 1, 0, 0), (.iaload, 1, 0, 0), (.aload_n 0, 1, 0, 0), (.iload_n 3, 1, 0, 0), (.iconst 2, 1, 0, 0), (.iadd, 1, 0, 0), (.iaload, 1, 0, 0), (.aload_n 0, 1, 0, 0), (.iload_n 3, 1, 0, 0), (.iconst 3, 1, 0, 0), (.iadd, 1, 0, 0), (.iaload, 1, 0, 0), (.invokevirtual 85, 3, 74, 0), zE, zE, (.aload_n 2, 1, 0, 0), (.aload_n 0, 1, 0, 0), (.iload_n 3, 1, 0, 0), (.iconst 1, 1, 0, 0), (.iadd, 1, 0, 0), (.iaload, 1, 0, 0), (.aload_n 0, 1, 0, 0), (.iload_n 3, 1, 0, 0), (.iconst 2, 1, 0, 0), (.iadd, 1, 0, 0), (.iaload, 1, 0, 0), (.aload_n 0, 1, 0, 0), (.iload_n 3, 1, 0, 0), (.iconst 3, 1, 0, 0), (.iadd, 1, 0, 0), (.iaload, 1, 0, 0), (.invokevirtual 88, 3, 163, 0), zE, zE, (.if_icmp .eq 734, 3, 0, 0), zE, zE, (.iconst 0, 1, 0, 0), (.ireturn, 1, 0, 0), (.aload_n 1, 1, 0, 0), (.aload_n 0, 1, 0, 0), (.iload_n 3, 1, 0, 0), (.iconst 1, 1, 0, 0), (.iadd, 1, 0, 0), (.iaload, 1, 0, 0), (.invokevirtual 89, 3, 72, 0), zE, zE, (.aload_n 2, 1, 0, 0), (.aload_n 0, 1, 0, 0), (.iload_n 3, 1, 0, 0), (.iconst 1, 1, 0, 0), (.iadd, 1, 0, 0), (.iaload, 1, 0, 0), (.invokevirtual 92, 3, 162, 0), zE, zE, (.if_icmp .eq 711, 3, 0, 0), zE, zE, (.iconst 0, 1, 0, 0), (.ireturn, 1, 0, 0), (.aload_n 1, 1, 0, 0), (.aload_n 0, 1, 0, 0), (.iload_n 3, 1, 0, 0), (.iconst 1, 1, 0, 0), (.iadd, 1, 0, 0), (.iaload, 1, 0, 0), (.aload_n 0, 1, 0, 0), (.iload_n 3, 1, 0, 0), (.iconst 2, 1, 0, 0), (.iadd, 1, 0, 0), (.iaload, 1, 0, 0), (.aload_n 0, 1, 0, 0), (.iload_n 3, 1, 0, 0), (.iconst 3, 1, 0, 0), (.iadd, 1, 0, 0), (.iaload, 1, 0, 0), (.invokevirtual 93, 3, 111, 0), zE, zE, (.aload_n 2, 1, 0, 0), (.aload_n 0, 1, 0, 0), (.iload_n 3, 1, 0, 0), (.iconst 1, 1, 0, 0), (.iadd, 1, 0, 0), (.iaload, 1, 0, 0), (.aload_n 0, 1, 0, 0), (.iload_n 3, 1, 0, 0), (.iconst 2, 1, 0, 0), (.iadd, 1, 0, 0), (.iaload, 1, 0, 0), (.aload_n 0, 1, 0, 0), (.iload_n 3, 1, 0, 0), (.iconst 3, 1, 0, 0), (.iadd, 1, 0, 0), (.iaload, 1, 0, 0), (.invokevirtual 96, 3, 199, 0), zE, zE, (.if_icmp .eq 668, 3, 0, 0), zE, zE, (.iconst 0, 1, 0, 0), (.ireturn, 1, 0, 0), (.aload_n 1, 1, 0, 0), (.aload_n 0, 1, 0, 0), (.iload_n 3, 1, 0, 0), (.iconst 1, 1, 0, 0), (.iadd, 1, 0, 0), (.iaload, 1, 0, 0), (.aload_n 0, 1, 0, 0), (.iload_n 3, 1, 0, 0), (.iconst 2, 1, 0, 0), (.iadd, 1, 0, 0), (.iaload, 1, 0, 0), (.invokevirtual 97, 3, 112, 0), zE, zE, (.aload_n 2, 1, 0, 0), (.aload_n 0, 1, 0, 0), (.iload_n 3, 1, 0, 0), (.iconst 1, 1, 0, 0), (.iadd, 1, 0, 0), (.iaload, 1, 0, 0), (.aload_n 0, 1, 0, 0), (.iload_n 3, 1, 0, 0), (.iconst 2, 1, 0, 0), (.iadd, 1, 0, 0), (.iaload, 1, 0, 0), (.invokevirtual 100, 3, 200, 0), zE, zE, (.if_icmp .eq 635, 3, 0, 0), zE, zE, (.iconst 0, 1, 0, 0), (.ireturn, 1, 0, 0), (.aload_n 1, 1, 0, 0), (.aload_n 0, 1, 0, 0), (.iload_n 3, 1, 0, 0), (.iconst 1, 1, 0, 0), (.iadd, 1, 0, 0), (.iaload, 1, 0, 0), (.aload_n 0, 1, 0, 0), (.iload_n 3, 1, 0, 0), (.iconst 2, 1, 0, 0), (.iadd, 1, 0, 0), (.iaload, 1, 0, 0), (.invokevirtual 101, 3, 128, 0), zE, zE, (.aload_n 2, 1, 0, 0), (.aload_n 0, 1, 0, 0), (.iload_n 3, 1, 0, 0), (.iconst 1, 1, 0, 0), (.iadd, 1, 0, 0), (.iaload, 1, 0, 0), (.aload_n 0, 1, 0, 0), (.iload_n 3, 1, 0, 0), (.iconst 2, 1, 0, 0), (.iadd, 1, 0, 0), (.iaload, 1, 0, 0), (.invokevirtual 104, 3, 219, 0), zE, zE, (.if_icmp .eq 602, 3, 0, 0), zE, zE, (.iconst 0, 1, 0, 0), (.ireturn, 1, 0, 0), (.aload_n 1, 1, 0, 0), (.aload_n 0, 1, 0, 0), (.iload_n 3, 1, 0, 0), (.iconst 1, 1, 0, 0), (.iadd, 1, 0, 0), (.iaload, 1, 0, 0), (.aload_n 0, 1, 0, 0), (.iload_n 3, 1, 0, 0), (.iconst 2, 1, 0, 0), (.iadd, 1, 0, 0), (.iaload, 1, 0, 0), (.invokevirtual 105, 3, 122, 0), zE, zE, (.aload_n 2, 1, 0, 0), (.aload_n 0, 1, 0, 0), (.iload_n 3, 1, 0, 0), (.iconst 1, 1, 0, 0), (.iadd, 1, 0, 0), (.iaload, 1, 0, 0), (.aload_n 0, 1, 0, 0), (.iload_n 3, 1, 0, 0), (.iconst 2, 1, 0, 0), (.iadd, 1, 0, 0), (.iaload, 1, 0, 0), (.invokevirtual 108, 3, 213, 0), zE, zE, (.if_icmp .eq 569, 3, 0, 0), zE, zE, (.iconst 0, 1, 0, 0), (.ireturn, 1, 0, 0), (.aload_n 1, 1, 0, 0), (.aload_n 0, 1, 0, 0), (.iload_n 3, 1, 0, 0), (.iconst 1, 1, 0, 0), (.iadd, 1, 0, 0), (.iaload, 1, 0, 0), (.invokevirtual 109, 3, 117, 0), zE, zE, (.aload_n 2, 1, 0, 0), (.aload_n 0, 1, 0, 0), (.iload_n 3, 1, 0, 0), (.iconst 1, 1, 0, 0), (.iadd, 1, 0, 0), (.iaload, 1, 0, 0), (.invokevirtual 112, 3, 208, 0), zE, zE, (.if_icmp .eq 546, 3, 0, 0), zE, zE, (.iconst 0, 1, 0, 0), (.ireturn, 1, 0, 0), (.aload_n 1, 1, 0, 0), (.aload_n 0, 1, 0, 0), (.iload_n 3, 1, 0, 0), (.iconst 1, 1, 0, 0), (.iadd, 1, 0, 0), (.iaload, 1, 0, 0), (.aload_n 0, 1, 0, 0), (.iload_n 3, 1, 0, 0), (.iconst 2, 1, 0, 0), (.iadd, 1, 0, 0), (.iaload, 1, 0, 0), (.invokevirtual 113, 3, 126, 0), zE, zE, (.aload_n 2, 1, 0, 0), (.aload_n 0, 1, 0, 0), (.iload_n 3, 1, 0, 0), (.iconst 1, 1, 0, 0), (.iadd, 1, 0, 0), (.iaload, 1, 0, 0), (.aload_n 0, 1, 0, 0), (.iload_n 3, 1, 0, 0), (.iconst 2, 1, 0, 0), (.iadd, 1, 0, 0), (.iaload, 1, 0, 0), (.invokevirtual 116, 3, 217, 0), zE, zE, (.if_icmp .eq 513, 3, 0, 0), zE, zE, (.iconst 0, 1, 0, 0), (.ireturn, 1, 0, 0), (.aload_n 1, 1, 0, 0), (.aload_n 0, 1, 0, 0), (.iload_n 3, 1, 0, 0), (.iconst 1, 1, 0, 0), (.iadd, 1, 0, 0), (.iaload, 1, 0, 0), (.invokevirtual 117, 3, 90, 0), zE, zE, (.aload_n 2, 1, 0, 0), (.aload_n 0, 1, 0, 0), (.iload_n 3, 1, 0, 0), (.iconst 1, 1, 0, 0), (.iadd, 1, 0, 0), (.iaload, 1, 0, 0), (.invokevirtual 120, 3, 186, 0), zE, zE, (.if_icmp .eq 490, 3, 0, 0), zE, zE, (.iconst 0, 1, 0, 0), (.ireturn, 1, 0, 0), (.aload_n 1, 1, 0, 0), (.aload_n 0, 1, 0, 0), (.iload_n 3, 1, 0, 0), (.iconst 1, 1, 0, 0), (.iadd, 1, 0, 0), (.iaload, 1, 0, 0), (.aload_n 0, 1, 0, 0), (.iload_n 3, 1, 0, 0), (.iconst 2, 1, 0, 0), (.iadd, 1, 0, 0), (.iaload, 1, 0, 0), (.invokevirtual 121, 3, 132, 0), zE, zE, (.aload_n 2, 1, 0, 0), (.aload_n 0, 1, 0, 0), (.iload_n 3, 1, 0, 0), (.iconst 1, 1, 0, 0), (.iadd, 1, 0, 0), (.iaload, 1, 0, 0), (.aload_n 0, 1, 0, 0), (.iload_n 3, 1, 0, 0), (.iconst 2, 1, 0, 0), (.iadd, 1, 0, 0), (.iaload, 1, 0, 0), (.invokevirtual 124, 3, 223, 0), zE, zE, (.if_icmp .eq 457, 3, 0, 0), zE, zE, (.iconst 0, 1, 0, 0), (.ireturn, 1, 0, 0), (.aload_n 1, 1, 0, 0), (.aload_n 0, 1, 0, 0), (.iload_n 3, 1, 0, 0), (.iconst 1, 1, 0, 0), (.iadd, 1, 0, 0), (.iaload, 1, 0, 0), (.invokevirtual 125, 3, 133, 0), zE, zE, (.aload_n 2, 1, 0, 0), (.aload_n 0, 1, 0, 0), (.iload_n 3, 1, 0, 0), (.iconst 1, 1, 0, 0), (.iadd, 1, 0, 0), (.iaload, 1, 0, 0), (.invokevirtual 128, 3, 224, 0), zE, zE, (.if_icmp .eq 434, 3, 0, 0), zE, zE, (.iconst 0, 1, 0, 0), (.ireturn, 1, 0, 0), (.aload_n 1, 1, 0, 0), (.aload_n 0, 1, 0, 0), (.iload_n 3, 1, 0, 0), (.iconst 1, 1, 0, 0), (.iadd, 1, 0, 0), (.iaload, 1, 0, 0), (.aload_n 0, 1, 0, 0), (.iload_n 3, 1, 0, 0), (.iconst 2, 1, 0, 0), (.iadd, 1, 0, 0), (.iaload, 1, 0, 0), (.invokevirtual 129, 3, 89, 0), zE, zE, (.aload_n 2, 1, 0, 0), (.aload_n 0, 1, 0, 0), (.iload_n 3, 1, 0, 0), (.iconst 1, 1, 0, 0), (.iadd, 1, 0, 0), (.iaload, 1, 0, 0), (.aload_n 0, 1, 0, 0), (.iload_n 3, 1, 0, 0), (.iconst 2, 1, 0, 0), (.iadd, 1, 0, 0), (.iaload, 1, 0, 0), (.invokevirtual 132, 3, 184, 0), zE, zE, (.if_icmp .eq 401, 3, 0, 0), zE, zE, (.iconst 0, 1, 0, 0), (.ireturn, 1, 0, 0), (.aload_n 1, 1, 0, 0), (.aload_n 0, 1, 0, 0), (.iload_n 3, 1, 0, 0), (.iconst 1, 1, 0, 0), (.iadd, 1, 0, 0), (.iaload, 1, 0, 0), (.aload_n 0, 1, 0, 0), (.iload_n 3, 1, 0, 0), (.iconst 2, 1, 0, 0), (.iadd, 1, 0, 0), (.iaload, 1, 0, 0), (.aload_n 0, 1, 0, 0), (.iload_n 3, 1, 0, 0), (.iconst 3, 1, 0, 0), (.iadd, 1, 0, 0), (.iaload, 1, 0, 0), (.aload_n 0, 1, 0, 0), (.iload_n 3, 1, 0, 0), (.iconst 4, 1, 0, 0), (.iadd, 1, 0, 0), (.iaload, 1, 0, 0), (.invokevirtual 133, 3, 80, 0), zE, zE, (.aload_n 2, 1, 0, 0), (.aload_n 0, 1, 0, 0), (.iload_n 3, 1, 0, 0), (.iconst 1, 1, 0, 0), (.iadd, 1, 0, 0), (.iaload, 1, 0, 0), (.aload_n 0, 1, 0, 0), (.iload_n 3, 1, 0, 0), (.iconst 2, 1, 0, 0), (.iadd, 1, 0, 0), (.iaload, 1, 0, 0), (.aload_n 0, 1, 0, 0), (.iload_n 3, 1, 0, 0), (.iconst 3, 1, 0, 0), (.iadd, 1, 0, 0), (.iaload, 1, 0, 0), (.aload_n 0, 1, 0, 0), (.iload_n 3, 1, 0, 0), (.iconst 4, 1, 0, 0), (.iadd, 1, 0, 0), (.iaload, 1, 0, 0), (.invokevirtual 137, 3, 176, 0), zE, zE, (.lcmp, 1, 0, 0), (.ifCond .eq 347, 3, 0, 0), zE, zE, (.iconst 0, 1, 0, 0), (.ireturn, 1, 0, 0), (.aload_n 1, 1, 0, 0), (.aload_n 0, 1, 0, 0), (.iload_n 3, 1, 0, 0), (.iconst 1, 1, 0, 0), (.iadd, 1, 0, 0), (.iaload, 1, 0, 0), (.invokevirtual 138, 3, 125, 0), zE, zE, (.aload_n 2, 1, 0, 0), (.aload_n 0, 1, 0, 0), (.iload_n 3, 1, 0, 0), (.iconst 1, 1, 0, 0), (.iadd, 1, 0, 0), (.iaload, 1, 0, 0), (.invokevirtual 141, 3, 216, 0), zE, zE, (.if_icmp .eq 324, 3, 0, 0), zE, zE, (.iconst 0, 1, 0, 0), (.ireturn, 1, 0, 0), (.aload_n 1, 1, 0, 0), (.aload_n 0, 1, 0, 0), (.iload_n 3, 1, 0, 0), (.iconst 1, 1, 0, 0), (.iadd, 1, 0, 0), (.iaload, 1, 0, 0), (.invokevirtual 142, 3, 119, 0), zE, zE, (.aload_n 2, 1, 0, 0), (.aload_n 0, 1, 0, 0), (.iload_n 3, 1, 0, 0), (.iconst 1, 1, 0, 0), (.iadd, 1, 0, 0), (.iaload, 1, 0, 0), (.invokevirtual 145, 3, 210, 0), zE, zE, (.if_icmp .eq 301, 3, 0, 0), zE, zE, (.iconst 0, 1, 0, 0), (.ireturn, 1, 0, 0), (.aload_n 1, 1, 0, 0), (.aload_n 0, 1, 0, 0), (.iload_n 3, 1, 0, 0), (.iconst 1, 1, 0, 0), (.iadd, 1, 0, 0), (.iaload, 1, 0, 0), (.invokevirtual 146, 3, 110, 0), zE, zE, (.aload_n 2, 1, 0, 0), (.aload_n 0, 1, 0, 0), (.iload_n 3, 1, 0, 0), (.iconst 1, 1, 0, 0), (.iadd, 1, 0, 0), (.iaload, 1, 0, 0), (.invokevirtual 150, 3, 198, 0), zE, zE, (.lcmp, 1, 0, 0), (.ifCond .eq 277, 3, 0, 0), zE, zE, (.iconst 0, 1, 0, 0), (.ireturn, 1, 0, 0), (.aload_n 1, 1, 0, 0), (.invokevirtual 151, 3, 64, 0), zE, zE, (.aload_n 2, 1, 0, 0), (.invokevirtual 154, 3, 154, 0), zE, zE, (.if_icmp .eq 264, 3, 0, 0), zE, zE, (.iconst 0, 1, 0, 0), (.ireturn, 1, 0, 0), (.aload_n 1, 1, 0, 0), (.aload_n 0, 1, 0, 0), (.iload_n 3, 1, 0, 0), (.iconst 1, 1, 0, 0), (.iadd, 1, 0, 0), (.iaload, 1, 0, 0), (.invokevirtual 155, 3, 120, 0), zE, zE, (.aload_n 2, 1, 0, 0), (.aload_n 0, 1, 0, 0), (.iload_n 3, 1, 0, 0), (.iconst 1, 1, 0, 0), (.iadd, 1, 0, 0), (.iaload, 1, 0, 0), (.invokevirtual 158, 3, 211, 0), zE, zE, (.if_icmp .eq 241, 3, 0, 0), zE, zE, (.iconst 0, 1, 0, 0), (.ireturn, 1, 0, 0), (.aload_n 1, 1, 0, 0), (.aload_n 0, 1, 0, 0), (.iload_n 3, 1, 0, 0), (.iconst 1, 1, 0, 0), (.iadd, 1, 0, 0), (.iaload, 1, 0, 0), (.invokevirtual 159, 3, 60, 0), zE, zE, (.aload_n 2, 1, 0, 0), (.aload_n 0, 1, 0, 0), (.iload_n 3, 1, 0, 0), (.iconst 1, 1, 0, 0), (.iadd, 1, 0, 0), (.iaload, 1, 0, 0), (.invokevirtual 162, 3, 137, 0), zE, zE, (.if_icmp .eq 218, 3, 0, 0), zE, zE, (.iconst 0, 1, 0, 0), (.ireturn, 1, 0, 0), (.aload_n 1, 1, 0, 0), (.aload_n 0, 1, 0, 0), (.iload_n 3, 1, 0, 0), (.iconst 1, 1, 0, 0), (.iadd, 1, 0, 0), (.iaload, 1, 0, 0), (.invokevirtual 163, 3, 129, 0), zE, zE, (.aload_n 2, 1, 0, 0), (.aload_n 0, 1, 0, 0), (.iload_n 3, 1, 0, 0), (.iconst 1, 1, 0, 0), (.iadd, 1, 0, 0), (.iaload, 1, 0, 0), (.invokevirtual 166, 3, 220, 0), zE, zE, (.if_icmp .eq 195, 3, 0, 0), zE, zE, (.iconst 0, 1, 0, 0), (.ireturn, 1, 0, 0), (.aload_n 1, 1, 0, 0), (.invokevirtual 167, 3, 131, 0), zE, zE, (.aload_n 2, 1, 0, 0), (.invokevirtual 170, 3, 222, 0), zE, zE, (.if_icmp .eq 182, 3, 0, 0), zE, zE, (.iconst 0, 1, 0, 0), (.ireturn, 1, 0, 0), (.aload_n 1, 1, 0, 0), (.aload_n 0, 1, 0, 0), (.iload_n 3, 1, 0, 0), (.iconst 1, 1, 0, 0), (.iadd, 1, 0, 0), (.iaload, 1, 0, 0), (.invokevirtual 171, 3, 84, 0), zE, zE, (.aload_n 2, 1, 0, 0), (.aload_n 0, 1, 0, 0), (.iload_n 3, 1, 0, 0), (.iconst 1, 1, 0, 0), (.iadd, 1, 0, 0), (.iaload, 1, 0, 0), (.invokevirtual 174, 3, 179, 0), zE, zE, (.if_icmp .eq 159, 3, 0, 0), zE, zE, (.iconst 0, 1, 0, 0), (.ireturn, 1, 0, 0), (.aload_n 1, 1, 0, 0), (.invokevirtual 175, 3, 123, 0), zE, zE, (.aload_n 2, 1, 0, 0), (.invokevirtual 178, 3, 214, 0), zE, zE, (.if_icmp .eq 146, 3, 0, 0), zE, zE, (.iconst 0, 1, 0, 0), (.ireturn, 1, 0, 0), (.aload_n 1, 1, 0, 0), (.aload_n 0, 1, 0, 0), (.iload_n 3, 1, 0, 0), (.iconst 1, 1, 0, 0), (.iadd, 1, 0, 0), (.iaload, 1, 0, 0), (.invokevirtual 179, 3, 121, 0), zE, zE, (.aload_n 2, 1, 0, 0), (.aload_n 0, 1, 0, 0), (.iload_n 3, 1, 0, 0), (.iconst 1, 1, 0, 0), (.iadd, 1, 0, 0), (.iaload, 1, 0, 0), (.invokevirtual 182, 3, 212, 0), zE, zE, (.if_icmp .eq 123, 3, 0, 0), zE, zE, (.iconst 0, 1, 0, 0), (.ireturn, 1, 0, 0), (.aload_n 1, 1, 0, 0), (.invokevirtual 183, 3, 99, 0), zE, zE, (.aload_n 2, 1, 0, 0), (.invokevirtual 186, 3, 192, 0), zE, zE, (.if_icmp .eq 110, 3, 0, 0), zE, zE, (.iconst 0, 1, 0, 0), (.ireturn, 1, 0, 0), (.aload_n 1, 1, 0, 0), (.invokevirtual 187, 3, 75, 0), zE, zE, (.aload_n 2, 1, 0, 0), (.invokevirtual 190, 3, 164, 0), zE, zE, (.if_icmp .eq 97, 3, 0, 0), zE, zE, (.iconst 0, 1, 0, 0), (.ireturn, 1, 0, 0), (.aload_n 1, 1, 0, 0), (.aload_n 0, 1, 0, 0), (.iload_n 3, 1, 0, 0), (.iconst 1, 1, 0, 0), (.iadd, 1, 0, 0), (.iaload, 1, 0, 0), (.aload_n 0, 1, 0, 0), (.iload_n 3, 1, 0, 0), (.iconst 2, 1, 0, 0), (.iadd, 1, 0, 0), (.iaload, 1, 0, 0), (.aload_n 0, 1, 0, 0), (.iload_n 3, 1, 0, 0), (.iconst 3, 1, 0, 0), (.iadd, 1, 0, 0), (.iaload, 1, 0, 0), (.invokevirtual 191, 3, 109, 0), zE, zE, (.aload_n 2, 1, 0, 0), (.aload_n 0, 1, 0, 0), (.iload_n 3, 1, 0, 0), (.iconst 1, 1, 0, 0), (.iadd, 1, 0, 0), (.iaload, 1, 0, 0), (.aload_n 0, 1, 0, 0), (.iload_n 3, 1, 0, 0), (.iconst 2, 1, 0, 0), (.iadd, 1, 0, 0), (.iaload, 1, 0, 0), (.aload_n 0, 1, 0, 0), (.iload_n 3, 1, 0, 0), (.iconst 3, 1, 0, 0), (.iadd, 1, 0, 0), (.iaload, 1, 0, 0), (.invokevirtual 194, 3, 197, 0), zE, zE, (.if_icmp .eq 54, 3, 0, 0), zE, zE, (.iconst 0, 1, 0, 0), (.ireturn, 1, 0, 0), (.aload_n 1, 1, 0, 0), (.invokevirtual 195, 3, 96, 0), zE, zE, (.aload_n 2, 1, 0, 0), (.invokevirtual 198, 3, 188, 0), zE, zE, (.if_icmp .eq 41, 3, 0, 0), zE, zE, (.iconst 0, 1, 0, 0), (.ireturn, 1, 0, 0), (.aload_n 1, 1, 0, 0), (.invokevirtual 199, 3, 118, 0), zE, zE, (.aload_n 2, 1, 0, 0), (.invokevirtual 202, 3, 209, 0), zE, zE, (.if_icmp .eq 28, 3, 0, 0), zE, zE, (.iconst 0, 1, 0, 0), (.ireturn, 1, 0, 0), (.aload_n 1, 1, 0, 0), (.aload_n 0, 1, 0, 0), (.iload_n 3, 1, 0, 0), (.iconst 1, 1, 0, 0), (.iadd, 1, 0, 0), (.iaload, 1, 0, 0), (.invokevirtual 203, 3, 76, 0), zE, zE, (.aload_n 2, 1, 0, 0), (.aload_n 0, 1, 0, 0), (.iload_n 3, 1, 0, 0), (.iconst 1, 1, 0, 0), (.iadd, 1, 0, 0), (.iaload, 1, 0, 0), (.invokevirtual 206, 3, 171, 0), zE, zE, (.if_icmp .eq 5, 3, 0, 0), zE, zE, (.iconst 0, 1, 0, 0), (.ireturn, 1, 0, 0), (.iinc 3 5, 3, 0, 0), zE, zE, (.goto (-1504), 3, 0, 0), zE, zE, (.iconst 1, 1, 0, 0), (.ireturn, 1, 0, 0)]
def tE_0 : List (List Ent) := [E0, E1, E2, E3, E4, E5, E6, E7, E8, E9, E10, E11, E12, E13, E14, E15, E16, E17, E18, E19, E20, E21, E22, E23, E24, E25, E26, E27, E28, E29, E30, E31, E32, E33, E34, E35, E36, E37, E38, E39]
def tE_1 : List (List Ent) := [E40, E41, E42, E43, E44, E45, E46, E47, E48, E49, E50, E51, E52, E53, E54, E55, E56, E57, E58, E59, E60, E61, E62, E63, E64, E65, E66, E67, E68, E69, E70, E71, E72, E73, E74, E75, E76, E77, E78, E79]
def tE_2 : List (List Ent) := [E80, E81, E82, E83, E84, E85, E86, E87, E88, E89, E90, E91, E92, E93, E94, E95, E96, E97, E98, E99, E100, E101, E102, E103, E104, E105, E106, E107, E108, E109, E110, E111, E112, E113, E114, E115, E116, E117, E118, E119]
def tE_3 : List (List Ent) := [E120, E121, E122, E123, E124, E125, E126, E127, E128, E129, E130, E131, E132, E133, E134, E135, E136, E137, E138, E139, E140, E141, E142, E143, E144, E145, E146, E147, E148, E149, E150, E151, E152, E153, E154, E155, E156, E157, E158, E159]
def tE_4 : List (List Ent) := [E160, E161, E162, E163, E164, E165, E166, E167, E168, E169, E170, E171, E172, E173, E174, E175, E176, E177, E178, E179, E180, E181, E182, E183, E184, E185, E186, E187, E188, E189, E190, E191, E192, E193, E194, E195, E196, E197, E198, E199]
def tE_5 : List (List Ent) := [E200, E201, E202, E203, E204, E205, E206, E207, E208, E209, E210, E211, E212, E213, E214, E215, E216, E217, E218, E219, E220, E221, E222, E223, E224, E225]
def tE : List (List Ent) := tE_0 ++ tE_1 ++ tE_2 ++ tE_3 ++ tE_4 ++ tE_5
def tY_0 : List MethodName := [yJ6_bitCount_0f7a4, yX1_burns, yX1_honest, yX1_wealth, yX0_forget, yX5_init, yX0_init, yX5_become, yX0_keep, yX0_size, yX0_takeBack, yX2_digit, yX2_twoDigits, yX5_isFull, yX5_add, yX2_comesPerson, yX5_has, yX2_comesHides, yX5_putCandle, yX2_comesCandle, yX5_turnCousin, yX2_comesCousin, yX2_comesLight, yX5_hasTimeFor, yX5_holdsWithMore, yX5_dusk, yX5_burnsHolding, yX5_passHour, yX5_isHonest, yX5_dawn, yX5_passNight, yX2_comes, yX2_digitsOf, yX2_dueBehind, yX2_faultOfForm, yX3_init, yX2_init, yX2_tellTo, yX3_isFull, yX3_append]
def tY_1 : List MethodName := [yX3_forget, yX3_size, yX4_firstUnlike, yX4_fits, yX4_init, yX5_sumOf, yX5_allCandles, yX5_allHolds, yX5_allPages, yX5_burnsOf, yX5_howManyDark, yX5_litOnes, yX5_howManyLit, yX5_lastsHolding, yX5_lastsOf, yX5_lastsWithMore, yX5_passHours, yX5_wealthOf, yX6_whyRange, yX6_refuse, yX6_above, yX6_whyWhat, yX6_first, yX6_all, yX6_apart, yX6_back, yX6_whyPerson, yX6_first_, yX6_bit, yX6_behind, yX6_lastsTogether, yX6_bestFriend, yX6_borrow, yX6_whyTwo, yX6_both, yX6_clear, yX6_count, yX6_power, yX6_waysWithLight, yX6_partOf]
def tY_2 : List MethodName := [yX6_draft, yX6_feed, yX6_figuresFit, yX6_pagesByCandle, yX6_gap, yX6_give, yX6_gives, yX6_lastsHalving, yX6_keepsTo, yX6_halve, yX6_hide, yX6_holdsFit, yX6_whyHour, yX6_hours, yX6_hoursTillDark, yX6_howManyHoldsFit, yX6_image, yX6_init, yX6_isFurther, yX6_judge, yX6_kindsFit, yX6_lasts, yX6_leastHoldsFit, yX6_lights, yX6_whoLastsLongest, yX6_whoGutters, yX6_longest, yX6_nightTrusting, yX6_losesNothing, yX6_lots, yX6_mean, yX6_night, yX6_nightOfAll, yX6_nights, yX6_pagesTrusting, yX6_person, yX6_personOf, yX6_relay, yX6_restore, yX6_richest]
def tY_3 : List MethodName := [yX6_ring, yX6_row, yX6_safe, yX6_same, yX6_sets, yX6_shares, yX6_tax, yX6_town, yX6_trust, yX6_trusted, yX6_trusts, yX6_unlit, yX6_whatHeHolds, yX6_whoGave, yX7_wrongNumber, yX7_refuse, yX7_wealthOf, yX7_above, yX7_carry, yX7_carryAll, yX7_again, yX7_in, yX7_wrongBit, yX7_think, yX7_least, yX7_burnsOf, yX7_hourOn, yX7_goHours, yX7_litMany, yX7_allPages, yX7_all, yX7_allCandles, yX7_allHolds, yX7_allWealth, yX7_apart, yX7_isOne, yX7_areTwo, yX7_back, yX7_behind, yX7_lastsOf]
def tY_4 : List MethodName := [yX7_lastsBy, yX7_bestFriend, yX7_borrow, yX7_both, yX7_clear, yX7_oneComes, yX7_setCandle, yX7_isHonest, yX7_goNight, yX7_comesTold, yX7_litBits, yX7_count, yX7_darkIn, yX7_divisor, yX7_hasBit, yX7_partOf, yX7_draft, yX7_drawBelow, yX7_feed, yX7_gap, yX7_give, yX7_keepTurn, yX7_gives, yX7_lastsIn, yX7_halve, yX7_here, yX7_hide, yX7_hours, yX7_image, yX7_init, yX7_isLetter, yX7_isRow, yX7_judge, yX7_lasts, yX7_lights, yX7_longestOne, yX7_longest, yX7_lots, yX7_mean, yX7_night]
def tY_5 : List MethodName := [yX7_nightOfAll, yX7_nights, yX7_person, yX7_personOf, yX7_readDigits, yX7_readNumbers, yX7_readStatement, yX7_readsWith, yX7_relay, yX7_restore, yX7_richest, yX7_ring, yX7_row, yX7_safe, yX7_same, yX7_sets, yX7_shares, yX7_tax, yX7_town, yX7_trust, yX7_trusted, yX7_trusts, yX7_unlit, yX7_whatHeHolds, yX7_whoGave, yL_law]
def tY : List MethodName := tY_0 ++ tY_1 ++ tY_2 ++ tY_3 ++ tY_4 ++ tY_5
def tB_0 : List ByteArray := [cJ6_bitCount_0f7a4, cX1_burns, cX1_honest, cX1_wealth, cX0_forget, cX5_init, cX0_init, cX5_become, cX0_keep, cX0_size, cX0_takeBack, cX2_digit, cX2_twoDigits, cX5_isFull, cX5_add, cX2_comesPerson, cX5_has, cX2_comesHides, cX5_putCandle, cX2_comesCandle, cX5_turnCousin, cX2_comesCousin, cX2_comesLight, cX5_hasTimeFor, cX5_holdsWithMore, cX5_dusk, cX5_burnsHolding, cX5_passHour, cX5_isHonest, cX5_dawn, cX5_passNight, cX2_comes, cX2_digitsOf, cX2_dueBehind, cX2_faultOfForm, cX3_init, cX2_init, cX2_tellTo, cX3_isFull, cX3_append]
def tB_1 : List ByteArray := [cX3_forget, cX3_size, cX4_firstUnlike, cX4_fits, cX4_init, cX5_sumOf, cX5_allCandles, cX5_allHolds, cX5_allPages, cX5_burnsOf, cX5_howManyDark, cX5_litOnes, cX5_howManyLit, cX5_lastsHolding, cX5_lastsOf, cX5_lastsWithMore, cX5_passHours, cX5_wealthOf, cX6_whyRange, cX6_refuse, cX6_above, cX6_whyWhat, cX6_first, cX6_all, cX6_apart, cX6_back, cX6_whyPerson, cX6_first_, cX6_bit, cX6_behind, cX6_lastsTogether, cX6_bestFriend, cX6_borrow, cX6_whyTwo, cX6_both, cX6_clear, cX6_count, cX6_power, cX6_waysWithLight, cX6_partOf]
def tB_2 : List ByteArray := [cX6_draft, cX6_feed, cX6_figuresFit, cX6_pagesByCandle, cX6_gap, cX6_give, cX6_gives, cX6_lastsHalving, cX6_keepsTo, cX6_halve, cX6_hide, cX6_holdsFit, cX6_whyHour, cX6_hours, cX6_hoursTillDark, cX6_howManyHoldsFit, cX6_image, cX6_init, cX6_isFurther, cX6_judge, cX6_kindsFit, cX6_lasts, cX6_leastHoldsFit, cX6_lights, cX6_whoLastsLongest, cX6_whoGutters, cX6_longest, cX6_nightTrusting, cX6_losesNothing, cX6_lots, cX6_mean, cX6_night, cX6_nightOfAll, cX6_nights, cX6_pagesTrusting, cX6_person, cX6_personOf, cX6_relay, cX6_restore, cX6_richest]
def tB_3 : List ByteArray := [cX6_ring, cX6_row, cX6_safe, cX6_same, cX6_sets, cX6_shares, cX6_tax, cX6_town, cX6_trust, cX6_trusted, cX6_trusts, cX6_unlit, cX6_whatHeHolds, cX6_whoGave, cX7_wrongNumber, cX7_refuse, cX7_wealthOf, cX7_above, cX7_carry, cX7_carryAll, cX7_again, cX7_in, cX7_wrongBit, cX7_think, cX7_least, cX7_burnsOf, cX7_hourOn, cX7_goHours, cX7_litMany, cX7_allPages, cX7_all, cX7_allCandles, cX7_allHolds, cX7_allWealth, cX7_apart, cX7_isOne, cX7_areTwo, cX7_back, cX7_behind, cX7_lastsOf]
def tB_4 : List ByteArray := [cX7_lastsBy, cX7_bestFriend, cX7_borrow, cX7_both, cX7_clear, cX7_oneComes, cX7_setCandle, cX7_isHonest, cX7_goNight, cX7_comesTold, cX7_litBits, cX7_count, cX7_darkIn, cX7_divisor, cX7_hasBit, cX7_partOf, cX7_draft, cX7_drawBelow, cX7_feed, cX7_gap, cX7_give, cX7_keepTurn, cX7_gives, cX7_lastsIn, cX7_halve, cX7_here, cX7_hide, cX7_hours, cX7_image, cX7_init, cX7_isLetter, cX7_isRow, cX7_judge, cX7_lasts, cX7_lights, cX7_longestOne, cX7_longest, cX7_lots, cX7_mean, cX7_night]
def tB_5 : List ByteArray := [cX7_nightOfAll, cX7_nights, cX7_person, cX7_personOf, cX7_readDigits, cX7_readNumbers, cX7_readStatement, cX7_readsWith, cX7_relay, cX7_restore, cX7_richest, cX7_ring, cX7_row, cX7_safe, cX7_same, cX7_sets, cX7_shares, cX7_tax, cX7_town, cX7_trust, cX7_trusted, cX7_trusts, cX7_unlit, cX7_whatHeHolds, cX7_whoGave, cL_law]
def tB : List ByteArray := tB_0 ++ tB_1 ++ tB_2 ++ tB_3 ++ tB_4 ++ tB_5
def tR_0 : List (Option FieldType) := [(some .int), (some .int), (some .boolean), (some .int), none, none, none, none, none, (some .int), none, (some .int), (some .int), (some .boolean), none, (some .boolean), (some .boolean), (some .boolean), none, (some .boolean), none, (some .boolean), (some .boolean), (some .boolean), (some .int), none, (some .int), none, (some .boolean), none, none, (some .boolean), (some .int), (some .int), (some .int), none, none, (some .int), (some .boolean), (some .int)]
def tR_1 : List (Option FieldType) := [none, (some .int), (some .int), (some .boolean), none, (some .int), (some .int), (some .int), (some .int), (some .int), (some .int), (some .int), (some .int), (some .int), (some .int), (some .int), none, (some .int), (some .int), (some .int), (some .int), (some .int), (some .int), (some .int), (some .int), (some .int), (some .int), (some .int), (some .int), (some .int), (some .int), (some .int), (some .int), (some .int), (some .int), (some .int), (some .int), (some .long), (some .long), (some .long)]
def tR_2 : List (Option FieldType) := [(some .long), (some .int), (some .int), (some .int), (some .int), (some .int), (some .int), (some .int), (some .boolean), (some .int), (some .int), (some .boolean), (some .int), (some .int), (some .int), (some .int), (some .int), none, (some .boolean), (some .int), (some .int), (some .int), (some .int), (some .int), (some .int), (some .int), (some .int), none, (some .boolean), (some .int), (some .long), (some .int), (some .int), (some .int), (some .int), (some .int), (some .int), (some .int), (some .int), (some .int)]
def tR_3 : List (Option FieldType) := [(some .int), (some .int), (some .int), (some .int), (some .int), (some .int), (some .int), (some .int), (some .int), (some .int), (some .int), (some .int), (some .int), (some .int), (some .int), (some .int), (some .int), (some .int), (some .int), none, none, (some .boolean), (some .int), none, (some .int), (some .int), none, none, (some .int), (some .int), (some .int), (some .int), (some .int), (some .int), (some .int), (some .boolean), (some .boolean), (some .int), (some .int), (some .int)]
def tR_4 : List (Option FieldType) := [(some .int), (some .int), (some .int), (some .int), (some .int), none, none, (some .boolean), none, (some .boolean), (some .int), (some .int), (some .int), (some .long), (some .boolean), (some .long), (some .long), (some .int), (some .int), (some .int), (some .int), none, (some .int), (some .int), (some .int), (some .int), (some .int), (some .int), (some .int), none, (some .boolean), (some .boolean), (some .int), (some .int), (some .int), (some .int), (some .int), (some .int), (some .long), (some .int)]
def tR_5 : List (Option FieldType) := [(some .int), (some .int), (some .int), (some .int), (some .int), none, none, (some .int), (some .int), (some .int), (some .int), (some .int), (some .int), (some .int), (some .int), (some .int), (some .int), (some .int), (some .int), (some .int), (some .int), (some .int), (some .int), (some .int), (some .int), ret]
def tR : List (Option FieldType) := tR_0 ++ tR_1 ++ tR_2 ++ tR_3 ++ tR_4 ++ tR_5
def tN_0 : List (Nat × Nat × Nat × Nat) := [(1, 1, 0, 0), (2, 2, 0, 0), (2, 2, 0, 0), (5, 4, 0, 0), (1, 1, 0, 0), (1, 1, 1, 21), (2, 1, 2, 41), (3, 2, 0, 0), (2, 2, 1, 22), (1, 1, 0, 0), (2, 2, 1, 22), (2, 2, 0, 0), (2, 2, 1, 21), (1, 1, 0, 0), (4, 4, 1, 20), (4, 4, 2, 43), (2, 2, 0, 0), (3, 3, 1, 21), (3, 3, 0, 0), (3, 3, 1, 22), (3, 3, 0, 0), (3, 3, 1, 22), (2, 2, 1, 21), (2, 2, 0, 0), (3, 3, 1, 21), (3, 1, 2, 43), (3, 3, 1, 24), (2, 1, 2, 46), (2, 2, 1, 21), (5, 1, 2, 43), (3, 2, 3, 67), (5, 3, 4, 89), (1, 1, 0, 0), (2, 2, 1, 20), (3, 1, 2, 41), (2, 2, 1, 21), (1, 1, 2, 42), (4, 2, 5, 113), (1, 1, 0, 0), (2, 2, 1, 20), (1, 1, 0, 0), (1, 1, 0, 0), (4, 3, 0, 0), (4, 3, 1, 21), (1, 1, 2, 42), (4, 2, 0, 0), (1, 1, 1, 23), (1, 1, 1, 23), (1, 1, 1, 23), (2, 2, 2, 46), (3, 1, 0, 0), (3, 1, 0, 0), (1, 1, 1, 22), (4, 3, 2, 46), (2, 2, 3, 69), (3, 3, 3, 69), (3, 2, 3, 67), (2, 2, 1, 24), (3, 3, 0, 0), (3, 2, 0, 0)]
def tN_1 : List (Nat × Nat × Nat × Nat) := [(5, 2, 2, 45), (2, 2, 0, 0), (2, 2, 0, 0), (4, 3, 4, 89), (4, 1, 2, 45), (1, 1, 2, 43), (2, 2, 1, 21), (3, 3, 1, 21), (1, 1, 0, 0), (5, 4, 4, 89), (3, 3, 4, 91), (8, 3, 5, 113), (3, 2, 4, 91), (3, 3, 1, 21), (11, 4, 4, 91), (2, 1, 1, 20), (2, 2, 2, 43), (5, 2, 0, 0), (10, 4, 3, 67), (11, 3, 0, 0), (6, 5, 4, 96), (3, 2, 2, 41), (6, 2, 2, 44), (4, 4, 4, 89), (7, 2, 5, 112), (7, 4, 3, 69), (5, 4, 2, 43), (7, 5, 4, 91), (5, 5, 5, 117), (6, 3, 6, 141), (11, 2, 2, 45), (3, 3, 2, 46), (2, 2, 1, 21), (3, 2, 4, 89), (2, 1, 3, 67), (4, 2, 3, 68), (1, 1, 1, 22), (1, 1, 3, 62), (5, 4, 2, 45), (2, 1, 1, 23), (5, 2, 2, 44), (3, 2, 4, 90), (3, 2, 3, 68), (3, 2, 2, 43), (5, 1, 4, 90), (4, 1, 4, 90), (4, 2, 5, 114), (4, 4, 4, 89), (4, 4, 5, 112), (10, 4, 4, 89), (6, 2, 2, 45), (5, 4, 4, 89), (4, 3, 4, 89), (4, 2, 4, 89), (4, 4, 5, 112), (5, 4, 2, 43), (4, 3, 3, 67), (6, 2, 4, 90), (1, 1, 1, 22), (5, 2, 3, 69)]
def tN_2 : List (Nat × Nat × Nat × Nat) := [(7, 2, 2, 42), (3, 2, 2, 41), (6, 3, 6, 135), (4, 1, 4, 90), (6, 4, 2, 43), (3, 2, 2, 43), (9, 3, 3, 67), (2, 1, 6, 136), (8, 3, 6, 135), (5, 2, 2, 42), (4, 3, 2, 43), (3, 1, 0, 0), (4, 3, 4, 91), (5, 2, 3, 68), (3, 3, 0, 0), (2, 2, 0, 0), (3, 2, 0, 0), (4, 2, 1, 22), (2, 2, 0, 0), (4, 3, 1, 21), (1, 1, 2, 44), (6, 3, 0, 0), (3, 3, 1, 25), (1, 1, 2, 44), (2, 2, 0, 0), (2, 2, 1, 22), (3, 1, 2, 43), (3, 2, 3, 65), (3, 1, 0, 0), (3, 1, 0, 0), (5, 3, 4, 87), (3, 1, 0, 0), (3, 1, 0, 0), (3, 1, 1, 22), (5, 1, 1, 22), (2, 2, 1, 25), (3, 3, 2, 46), (2, 1, 2, 44), (6, 4, 4, 87), (3, 2, 2, 43), (9, 5, 3, 65), (8, 3, 4, 93), (5, 2, 3, 65), (9, 4, 4, 93), (2, 1, 0, 0), (4, 4, 0, 0), (3, 3, 0, 0), (2, 2, 0, 0), (5, 2, 4, 87), (5, 2, 5, 111), (3, 1, 0, 0), (2, 2, 1, 25), (3, 1, 3, 65), (10, 2, 0, 0), (2, 2, 0, 0), (7, 3, 1, 29), (16, 5, 2, 55), (2, 2, 0, 0), (2, 2, 1, 21), (7, 2, 5, 111)]
def tN_3 : List (Nat × Nat × Nat × Nat) := [(8, 4, 3, 68), (2, 1, 2, 44), (5, 4, 3, 68), (11, 6, 3, 65), (6, 3, 4, 95), (1, 1, 0, 0), (8, 2, 2, 46), (3, 2, 4, 87), (1, 1, 2, 44), (1, 1, 1, 21), (1, 1, 0, 0), (6, 2, 2, 43), (3, 1, 0, 0), (2, 2, 3, 65), (3, 2, 3, 65), (3, 1, 3, 65), (4, 2, 4, 87), (10, 4, 5, 111), (2, 2, 2, 55), (7, 4, 5, 111), (7, 3, 5, 111), (4, 2, 5, 111), (5, 4, 1, 25), (3, 3, 2, 46), (4, 2, 1, 25), (3, 3, 2, 48), (3, 1, 3, 70), (6, 4, 5, 111), (4, 2, 4, 87), (1, 1, 2, 44), (5, 2, 1, 25), (5, 2, 2, 46), (2, 2, 1, 21), (7, 3, 5, 111), (4, 1, 3, 65), (6, 4, 3, 65), (2, 2, 1, 25), (7, 3, 2, 47), (2, 1, 6, 135), (8, 3, 6, 136), (4, 2, 2, 46), (3, 3, 3, 68), (3, 1, 0, 0), (9, 3, 3, 68), (5, 2, 3, 68), (4, 1, 7, 166)]
def tN : List (Nat × Nat × Nat × Nat) := tN_0 ++ tN_1 ++ tN_2 ++ tN_3
abbrev classes : List vw_C := [(RX6, TX6, 8), (RX5, TX5, 11), (RX0, TX0, 3), (RX2, TX2, 2), (RX4, TX4, 2), (RX7, TX7, 33)]
def cTy (ci : Nat) : Nat → FieldType := match ci with
  | 0 => tyX6
  | 1 => tyX5
  | 2 => tyX0
  | 3 => tyX2
  | 4 => tyX4
  | _ => tyX7
def sT : List (List Nat) := [[3, 3, 3, 4, 3, 3, 3, 3], [3, 3, 3, 3, 3, 3, 3, 3, 3, 1, 1], [3, 1, 1], [3, 1], [3, 1], [1, 3, 3, 3, 3, 3, 3, 3, 3, 1, 1, 3, 3, 3, 1, 1, 4, 1, 3, 3, 3, 3, 3, 4, 1, 4, 3, 3, 3, 1, 3, 1, 1]]
def LAY : List (Nat × Nat) := [(0, 0), (5, 0), (1, 0), (1, 1), (2, 6), (2, 6), (2, 6), (2, 6), (2, 6), (3, 6), (2, 6), (2, 6), (2, 6), (1, 1), (2, 6), (2, 6), (2, 6), (2, 6), (2, 6), (3, 6), (2, 6), (2, 6), (2, 6), (1, 1), (2, 6), (2, 6), (2, 6), (2, 6), (2, 6), (3, 6), (2, 6), (2, 6), (2, 6), (1, 2), (4, 8), (1, 1), (2, 6), (2, 6), (2, 6), (2, 6), (2, 6), (3, 6), (2, 6), (2, 6), (2, 6), (1, 1), (2, 6), (2, 6), (2, 6), (2, 6), (2, 6), (3, 6), (2, 6), (2, 6), (2, 6), (1, 1), (2, 6), (2, 6), (2, 6), (2, 6), (2, 6), (3, 6), (2, 6), (2, 6), (2, 6), (1, 1), (2, 6), (2, 6), (2, 6), (2, 6), (2, 6), (3, 6), (2, 6), (2, 6), (2, 6), (1, 1), (2, 6), (2, 6), (2, 6), (2, 6), (2, 6), (3, 6), (2, 6), (2, 6), (2, 6), (1, 1), (2, 6), (2, 6), (2, 6), (2, 6), (2, 6), (3, 6), (2, 6), (2, 6), (2, 6), (1, 1), (2, 6), (2, 6), (2, 6), (2, 6), (2, 6), (3, 6), (2, 6), (2, 6), (2, 6), (1, 1), (2, 6), (2, 6), (2, 6), (2, 6), (2, 6), (3, 6), (2, 6), (2, 6), (2, 6), (1, 3), (2, 96), (1, 4), (2, 12), (2, 7), (1, 5), (2, 6), (2, 6), (2, 6), (2, 6), (2, 6), (2, 6), (2, 6), (2, 6), (2, 7), (2, 6), (2, 96), (2, 49), (2, 49), (2, 147), (2, 50), (2, 50), (2, 400), (2, 50), (2, 12)]
def nth {α : Type} : List α → Nat → Option α
  | [], _ => none
  | a :: _, 0 => some a
  | _ :: l, n + 1 => nth l n
def lay (a : Nat) : Nat × Nat := LAY.getD a (0, 0)
def slotTag (ci k : Nat) : Nat := ((sT.getD ci []).getD k 0)
def mE (m : Nat) : List Ent := tE.getD m []
def mY (m : Nat) : MethodName := tY.getD m ⟨"", "", ""⟩
def mB (m : Nat) : ByteArray := tB.getD m (.mk #[])
def mR (m : Nat) : Option FieldType := tR.getD m none
def mL (m : Nat) : Nat := (tN.getD m (0, 0, 0, 0)).1
def mNA (m : Nat) : Nat := (tN.getD m (0, 0, 0, 0)).2.1
def mFr (m : Nat) : Nat := (tN.getD m (0, 0, 0, 0)).2.2.1
def mLo (m : Nat) : Nat := (tN.getD m (0, 0, 0, 0)).2.2.2
def cC (ci : Nat) : String := (classes.getD ci ("", TX1, 0)).1
def cT (ci : Nat) : u_T := (classes.getD ci ("", TX1, 0)).2.1
def cN (ci : Nat) : Nat := (classes.getD ci ("", TX1, 0)).2.2
/-- which classes a receiver may be of -/
def cis (r : Nat) : List Nat := if r = 34 then [3, 4] else [r]
def wr (x : Int) : Int := Int.bmod x 4294967296
def wl (x : Int) : Int := Int.bmod x 18446744073709551616
def iB (f : Int32 → Int32 → Int32) (a b : Int) : Int := (f (Int32.ofInt a) (Int32.ofInt b)).toInt
def lB (f : Int64 → Int64 → Int64) (a b : Int) : Int := (f (Int64.ofInt a) (Int64.ofInt b)).toInt
def xdiv (a b : Int) : Int := iB (fun x y => x / y) a b
def xrem (a b : Int) : Int := iB (fun x y => x - x / y * y) a b
def xshl (a b : Int) : Int := iB (fun x y => x <<< (y &&& 31)) a b
def xshr (a b : Int) : Int := iB (fun x y => x >>> (y &&& 31)) a b
def xushr (a b : Int) : Int := iB (fun x y => (x.toUInt32 >>> (y.toUInt32 &&& Int32.toUInt32 31)).toInt32) a b
def xand (a b : Int) : Int := iB (fun x y => x &&& y) a b
def xor_ (a b : Int) : Int := iB (fun x y => x ||| y) a b
def xldiv (a b : Int) : Int := lB (fun x y => x / y) a b
def xlrem (a b : Int) : Int := lB (fun x y => x - x / y * y) a b
def xlcmp (a b : Int) : Int := if b < a then 1 else if a = b then 0 else -1
def stk : Act := (0, 0, 0, 0, false, (0, 0), [], [], [])
def goA (pc : Nat) (ls st : List Vl) : Act := (1, pc, 0, 0, false, (0, 0), ls, st, [])
def jmp (pc : Nat) (off : Int) (ls st : List Vl) : Act := if 0 ≤ (pc : Int) + off then goA ((pc : Int) + off).toNat ls st else stk
def brA (b : Bool) (pc : Nat) (off : Int) (ls st : List Vl) : Act := if 0 ≤ (pc : Int) + off then (9, ((pc : Int) + off).toNat, pc + 3, 0, b, (0, 0), ls, st, []) else stk
def cmpB (c : ClassFile.Cond) (x y : Int) : Bool := match c with
  | .eq => decide (x = y)
  | .ne => decide (x ≠ y)
  | .lt => decide (x < y)
  | .ge => decide (y ≤ x)
  | .gt => decide (y < x)
  | .le => decide (x ≤ y)
/-- a local variable is given a value; a long that began one place ahead is no more -/
def stL (L : List Vl) (i : Nat) (v : Vl) : List Vl := ((if (L.getD (i - 1) (0, 0)).1 = 2 then L.set (i - 1) (0, 0) else L).set i v)
def a1 (f : Int → Int) (pc : Nat) (ls st : List Vl) : Act := match st with
  | (1, x) :: r => goA (pc + 1) ls ((1, f x) :: r)
  | _ => stk
def a2 (f : Int → Int → Int) (pc : Nat) (ls st : List Vl) : Act := match st with
  | (1, y) :: (1, x) :: r => goA (pc + 1) ls ((1, f x y) :: r)
  | _ => stk
def a2n (f : Int → Int → Int) (pc : Nat) (ls st : List Vl) : Act := match st with
  | (1, y) :: (1, x) :: r => if y = 0 then stk else goA (pc + 1) ls ((1, f x y) :: r)
  | _ => stk
def l2 (f : Int → Int → Int) (pc : Nat) (ls st : List Vl) : Act := match st with
  | (2, y) :: (2, x) :: r => goA (pc + 1) ls ((2, f x y) :: r)
  | _ => stk
def l2n (f : Int → Int → Int) (pc : Nat) (ls st : List Vl) : Act := match st with
  | (2, y) :: (2, x) :: r => if y = 0 then stk else goA (pc + 1) ls ((2, f x y) :: r)
  | _ => stk
def ldA (t i w pc : Nat) (ls st : List Vl) : Act := match nth ls i with
  | some (u, x) => if u = t then goA (pc + w) ls ((t, x) :: st) else stk
  | none => stk
def stA (t i w pc : Nat) (ls st : List Vl) : Act := match st with
  | (u, x) :: r => if u = t ∧ i < ls.length then goA (pc + w) (stL ls i (t, x)) r else stk
  | _ => stk
def stA2 (i w pc : Nat) (ls st : List Vl) : Act := match st with
  | (2, x) :: r => if i + 1 < ls.length then goA (pc + w) (stL (ls.set (i + 1) (0, 0)) i (2, x)) r else stk
  | _ => stk
def cats (st : List Vl) : Nat := (st.map fun v => if v.1 = 2 then 2 else 1).sum
/-- a call: the arguments lie on the stack, the last on top -/
def caA (j : Nat) (pc : Nat) (ls st : List Vl) : Act := if mNA j ≤ st.length ∧ cats (st.drop (mNA j)) ≤ 8 ∧ cats (st.take (mNA j)) ≤ mL j then (5, pc + 3, j, 0, false, (0, 0), ls, st.drop (mNA j), (st.take (mNA j)).reverse) else stk
def rcv (st : List Vl) (n : Nat) : Option Nat := match nth st (n - 1) with
  | some (3, a) => if 2 ≤ a ∧ 0 < n ∧ (lay a.toNat).1 = 1 then some (lay a.toNat).2 else none
  | _ => none
def isInit (m : Nat) : Bool := decide ((mY m).name = "<init>")
def ifA (c : ClassFile.Cond) (off : Int) (pc : Nat) (ls st : List Vl) : Act := match st with
  | (1, x) :: r => brA (cmpB c x 0) pc off ls r
  | _ => stk
def icA (c : ClassFile.Cond) (off : Int) (pc : Nat) (ls st : List Vl) : Act := match st with
  | (1, y) :: (1, x) :: r => brA (cmpB c x y) pc off ls r
  | _ => stk
def tsA (dflt lo hi : Int) (offs : Array Int) (pc : Nat) (ls st : List Vl) : Act := match st with
  | (1, x) :: r => if x < lo ∨ hi < x then jmp pc dflt ls r else match offs[(x - lo).toNat]? with
    | some off => jmp pc off ls r
    | none => stk
  | _ => stk
def lkA (dflt : Int) (ps : Array (Int × Int)) (pc : Nat) (ls st : List Vl) : Act := match st with
  | (1, x) :: r => jmp pc (Op.lookupswitch.offset ps.toList dflt x) ls r
  | _ => stk
def lcA (pc : Nat) (ls st : List Vl) : Act := match st with
  | (2, y) :: (2, x) :: r => goA (pc + 1) ls ((1, xlcmp x y) :: r)
  | _ => stk
def ilA (pc : Nat) (ls st : List Vl) : Act := match st with
  | (1, x) :: r => goA (pc + 1) ls ((2, x) :: r)
  | _ => stk
def inA (i : Nat) (n : Int) (len pc : Nat) (ls st : List Vl) : Act := match nth ls i with
  | some (1, x) => if len = 3 then goA (pc + 3) (stL ls i (1, wr (x + wr n))) st else stk
  | _ => stk
def dpA (pc : Nat) (ls st : List Vl) : Act := match st with
  | v :: r => if v.1 = 1 ∨ v.1 = 3 then goA (pc + 1) ls (v :: v :: r) else stk
  | _ => stk
def d2A (pc : Nat) (ls st : List Vl) : Act := match st with
  | v :: w :: r => if v.1 = 2 then goA (pc + 1) ls (v :: v :: w :: r) else if (v.1 = 1 ∨ v.1 = 3) ∧ (w.1 = 1 ∨ w.1 = 3) then goA (pc + 1) ls (v :: w :: v :: w :: r) else stk
  | _ => stk
def gfA (r1 k pc : Nat) (ls st : List Vl) : Act := match st with
  | (3, a) :: r => if 2 ≤ a ∧ (lay a.toNat).1 = 1 ∧ (cis r1).contains (lay a.toNat).2 = true then (2, pc + 3, a.toNat, k, false, (if slotTag (lay a.toNat).2 k = 3 then 3 else 1, 0), ls, r, []) else stk
  | _ => stk
def pfA (r1 k pc : Nat) (ls st : List Vl) : Act := match st with
  | (t, x) :: (3, a) :: r => if 2 ≤ a ∧ (lay a.toNat).1 = 1 ∧ (cis r1).contains (lay a.toNat).2 = true ∧ (t = if slotTag (lay a.toNat).2 k = 3 then 3 else 1) ∧ (slotTag (lay a.toNat).2 k = 4 → x = 0 ∨ x = 1) ∧ (t = 3 → 2 ≤ x) then (3, pc + 3, a.toNat, k, false, (t, x), ls, r, []) else stk
  | _ => stk
/-- reads out of a row of a kind -/
def rdA (kind t pc : Nat) (ls st : List Vl) : Act := match st with
  | (1, i) :: (3, a) :: r => if 2 ≤ a ∧ (lay a.toNat).1 = kind ∧ 0 ≤ i ∧ i < (lay a.toNat).2 then (2, pc + 1, a.toNat, i.toNat, false, (t, 0), ls, r, []) else stk
  | _ => stk
def irA (pc : Nat) (ls st : List Vl) : Act := match st with
  | (1, i) :: (3, a) :: r => if a = 1 then (7, pc + 1, 0, 0, false, (1, i), ls, r, []) else if 2 ≤ a ∧ (lay a.toNat).1 = 2 ∧ 0 ≤ i ∧ i < (lay a.toNat).2 then (2, pc + 1, a.toNat, i.toNat, false, (1, 0), ls, r, []) else stk
  | _ => stk
def iwA (pc : Nat) (ls st : List Vl) : Act := match st with
  | (1, x) :: (1, i) :: (3, a) :: r => if 2 ≤ a ∧ (lay a.toNat).1 = 2 ∧ 0 ≤ i ∧ i < (lay a.toNat).2 then (3, pc + 1, a.toNat, i.toNat, false, (1, x), ls, r, []) else stk
  | _ => stk
def bwA (pc : Nat) (ls st : List Vl) : Act := match st with
  | (1, x) :: (1, i) :: (3, a) :: r => if 2 ≤ a ∧ (lay a.toNat).1 = 3 ∧ 0 ≤ i ∧ i < (lay a.toNat).2 ∧ (x = 0 ∨ x = 1) then (3, pc + 1, a.toNat, i.toNat, false, (1, x), ls, r, []) else stk
  | _ => stk
def awA (pc : Nat) (ls st : List Vl) : Act := match st with
  | (3, x) :: (1, i) :: (3, a) :: r => if 2 ≤ a ∧ (lay a.toNat).1 = 4 ∧ 0 ≤ i ∧ i < (lay a.toNat).2 ∧ 2 ≤ x ∧ lay x.toNat = (1, 1) then (3, pc + 1, a.toNat, i.toNat, false, (3, x), ls, r, []) else stk
  | _ => stk
def lnA (pc : Nat) (ls st : List Vl) : Act := match st with
  | (3, a) :: r => if a = 1 then (8, pc + 1, 0, 0, false, (1, 0), ls, r, []) else if 2 ≤ a ∧ (lay a.toNat).1 = 2 then goA (pc + 1) ls ((1, ((lay a.toNat).2 : Int)) :: r) else stk
  | _ => stk
def naA (kind w pc : Nat) (ls st : List Vl) : Act := match st with
  | (1, x) :: r => if 0 ≤ x ∧ x ≤ 1000 then (4, pc + w, kind, x.toNat, false, (0, 0), ls, r, []) else stk
  | _ => stk
def mmA (r2 : Int) (pc : Nat) (ls st : List Vl) : Act := match st with
  | (1, y) :: (1, x) :: r => if cats r ≤ 8 then goA (pc + 3) ls ((1, if r2 = 1 then (if y < x then y else x) else (if x < y then y else x)) :: r) else stk
  | _ => stk
def oiA (pc : Nat) (ls st : List Vl) : Act := match st with
  | (3, a) :: r => if 2 ≤ a ∧ r.length = 0 then goA (pc + 3) ls r else stk
  | _ => stk
def csA (j pc : Nat) (ls st : List Vl) : Act := match rcv st (mNA j) with
  | some _ => caA j pc ls st
  | none => stk
def cvA (j : Nat) (r2 : Int) (pc : Nat) (ls st : List Vl) : Act := match rcv st (mNA j) with
  | some ci => if (if r2 = 0 then cC ci = (mY j).cls else (cis r2.toNat).contains ci = true) then caA j pc ls st else stk
  | none => stk
def reI (m : Nat) (ls st : List Vl) : Act := match st with
  | [(1, x)] => if mR m = some .int ∨ (mR m = some .boolean ∧ (x = 0 ∨ x = 1)) then (6, 0, 0, 0, false, (0, 0), ls, [(1, x)], []) else stk
  | _ => stk
def reL (m : Nat) (ls st : List Vl) : Act := match st with
  | [(2, x)] => if mR m = some .long then (6, 0, 0, 0, false, (0, 0), ls, [(2, x)], []) else stk
  | _ => stk
def reV (m : Nat) (ls st : List Vl) : Act := match st with
  | [] => if mR m = none then (6, 0, 0, 0, false, (0, 0), ls, [], []) else stk
  | _ => stk
/-- what an instruction does: (what, next place, cell, slot, yes or no, value, locals, stack, arguments) -/
def act (m : Nat) (e : Ent) (pc : Nat) (ls st : List Vl) : Act := match e with
  | (i, len, r1, r2) => match i with
    | .aload_n n => ldA 3 n.val 1 pc ls st
    | .aload n => ldA 3 n 2 pc ls st
    | .iload_n n => ldA 1 n.val 1 pc ls st
    | .iload n => ldA 1 n 2 pc ls st
    | .lload_n n => ldA 2 n.val 1 pc ls st
    | .lload n => ldA 2 n 2 pc ls st
    | .istore_n n => stA 1 n.val 1 pc ls st
    | .istore n => stA 1 n 2 pc ls st
    | .astore_n n => stA 3 n.val 1 pc ls st
    | .lstore_n n => stA2 n.val 1 pc ls st
    | .lstore n => stA2 n 2 pc ls st
    | .iconst n => if -1 ≤ n ∧ n ≤ 5 then goA (pc + 1) ls ((1, n) :: st) else stk
    | .bipush n => if -128 ≤ n ∧ n ≤ 127 then goA (pc + 2) ls ((1, n) :: st) else stk
    | .sipush n => if -32768 ≤ n ∧ n ≤ 32767 then goA (pc + 3) ls ((1, n) :: st) else stk
    | .ldc _ => goA (pc + 2) ls ((1, r2) :: st)
    | .ldc_w _ => goA (pc + 3) ls ((1, r2) :: st)
    | .ldc2_w _ => goA (pc + 3) ls ((2, r2) :: st)
    | .lconst n => goA (pc + 1) ls ((2, (n.val : Int)) :: st)
    | .iadd => a2 (fun x y => wr (x + y)) pc ls st
    | .isub => a2 (fun x y => wr (x - y)) pc ls st
    | .imul => a2 (fun x y => wr (x * y)) pc ls st
    | .idiv => a2n xdiv pc ls st
    | .irem => a2n xrem pc ls st
    | .ineg => a1 (fun x => wr (-x)) pc ls st
    | .ishl => a2 xshl pc ls st
    | .ishr => a2 xshr pc ls st
    | .iushr => a2 xushr pc ls st
    | .iand => a2 xand pc ls st
    | .ior => a2 xor_ pc ls st
    | .ladd => l2 (fun x y => wl (x + y)) pc ls st
    | .lsub => l2 (fun x y => wl (x - y)) pc ls st
    | .lmul => l2 (fun x y => wl (x * y)) pc ls st
    | .ldiv => l2n xldiv pc ls st
    | .lrem => l2n xlrem pc ls st
    | .lcmp => lcA pc ls st
    | .i2l => ilA pc ls st
    | .iinc i n => inA i n len pc ls st
    | .dup => dpA pc ls st
    | .dup2 => d2A pc ls st
    | .goto off => jmp pc off ls st
    | .ifCond c off => ifA c off pc ls st
    | .if_icmp c off => icA c off pc ls st
    | .tableswitch dflt lo hi offs => tsA dflt lo hi offs pc ls st
    | .lookupswitch dflt ps => lkA dflt ps pc ls st
    | .getfield _ => gfA r1 r2.toNat pc ls st
    | .putfield _ => pfA r1 r2.toNat pc ls st
    | .iaload => irA pc ls st
    | .baload => rdA 3 1 pc ls st
    | .aaload => rdA 4 3 pc ls st
    | .iastore => iwA pc ls st
    | .bastore => bwA pc ls st
    | .aastore => awA pc ls st
    | .arraylength => lnA pc ls st
    | .new _ => (4, pc + 3, 1, r1, false, (0, 0), ls, st, [])
    | .newarray t => (match t with
      | .int => naA 2 2 pc ls st
      | .boolean => naA 3 2 pc ls st
      | _ => stk)
    | .anewarray _ => naA 4 3 pc ls st
    | .invokestatic _ => if r2 = 0 then caA r1 pc ls st else mmA r2 pc ls st
    | .invokespecial _ => if r2 = 1 then oiA pc ls st else csA r1 pc ls st
    | .invokevirtual _ => cvA r1 r2 pc ls st
    | .ireturn => reI m ls st
    | .lreturn => reL m ls st
    | .return_ => reV m ls st
    | _ => stk
def upS (f : Nat → Nat → Int) (a k : Nat) (x : Int) : Nat → Nat → Int := fun a' k' => if a' = a ∧ k' = k then x else f a' k'
def clS (f : Nat → Nat → Int) (a : Nat) : Nat → Nat → Int := fun a' k' => if a' = a then 0 else f a' k'
def entL (args : List Vl) (n : Nat) : List Vl := (args.flatMap fun v => if v.1 = 2 then [v, (0, 0)] else [v]) ++ List.replicate (n - (args.map fun v => if v.1 = 2 then 2 else 1).sum) (0, 0)
def inR (lo hi a : Nat) : Prop := lo ≤ a ∧ a < hi
/-- a run of method m from place pc, over the cells lo .. hi - 1 alone -/
def run (lo hi : Nat) : Nat → Nat → Nat → List Vl → List Vl → Sto → Option (List Vl × Sto)
  | 0, _, _, _, _, _ => none
  | f + 1, m, pc, ls, st, s => match nth (mE m) pc with
    | none => none
    | some e => match act m e pc ls st with
      | (1, pc', _, _, _, _, ls', st', _) => run lo hi f m pc' ls' st' s
      | (2, pc', a, k, _, v, ls', st', _) => if lo ≤ a ∧ a < hi then run lo hi f m pc' ls' ((v.1, s.2 a k) :: st') s else none
      | (3, pc', a, k, _, v, ls', st', _) => if lo ≤ a ∧ a < hi then run lo hi f m pc' ls' st' (s.1, upS s.2 a k v.2) else none
      | (4, pc', a, k, _, _, ls', st', _) => if lay s.1 = (a, k) ∧ lo ≤ s.1 ∧ s.1 < hi then run lo hi f m pc' ls' ((3, (s.1 : Int)) :: st') (s.1 + 1, clS s.2 s.1) else none
      | (5, pc', j, _, _, _, ls', st', args) => (match run lo hi f j 0 (entL args (mL j)) [] s with
        | some (r, s') => run lo hi f m pc' ls' (r ++ st') s'
        | none => none)
      | (6, _, _, _, _, _, _, _, _) => some (st, s)
      | (7, pc', _, _, _, v, ls', st', _) => if lo ≤ 1 ∧ 0 ≤ v.2 ∧ v.2 < s.2 0 0 then run lo hi f m pc' ls' ((1, s.2 1 v.2.toNat) :: st') s else none
      | (8, pc', _, _, _, _, ls', st', _) => if lo ≤ 1 then run lo hi f m pc' ls' ((1, s.2 0 0) :: st') s else none
      | (9, pt, pf, _, b, _, ls', st', _) => if b = true then run lo hi f m pt ls' st' s else run lo hi f m pf ls' st' s
      | _ => none
end
section
/-! WHAT A STATE OF THE SMALL MACHINE STANDS FOR in the big one. -/
/-- a value -/
def rvl (ws : va_W) (b : Nat) (v : Vl) (x : Value) : Prop :=
  (v.1 = 1 ∧ ∃ y : Int32, x = .int y ∧ y.toInt = v.2) ∨
  (v.1 = 2 ∧ ∃ y : Int64, x = .long y ∧ y.toInt = v.2) ∨
  (v.1 = 3 ∧ ((v.2 = 0 ∧ x = .null) ∨ (v.2 = 1 ∧ x = .ref b) ∨ ∃ (a q : Nat) (e : va_E), v.2 = (a : Int) + 2 ∧ ws[a]? = some (q, e) ∧ x = .ref q))
theorem rvl_int {ws : va_W} {b : Nat} {i : Int} {x : Value} (h : rvl ws b (1, i) x) : ∃ y : Int32, x = .int y ∧ y.toInt = i := by
  rcases h with ⟨-, h⟩ | ⟨h, -⟩ | ⟨h, -⟩
  · exact h
  · exact absurd h (by simp)
  · exact absurd h (by simp)
theorem rvl_long {ws : va_W} {b : Nat} {i : Int} {x : Value} (h : rvl ws b (2, i) x) : ∃ y : Int64, x = .long y ∧ y.toInt = i := by
  rcases h with ⟨h, -⟩ | ⟨-, h⟩ | ⟨h, -⟩
  · exact absurd h (by simp)
  · exact h
  · exact absurd h (by simp)
theorem rvl_ref {ws : va_W} {b : Nat} {i : Int} {x : Value} (h : rvl ws b (3, i) x) (hi : 2 ≤ i) : ∃ (q : Nat) (e : va_E), ws[i.toNat - 2]? = some (q, e) ∧ x = .ref q := by
  rcases h with ⟨h, -⟩ | ⟨h, -⟩ | ⟨-, h⟩
  · exact absurd h (by simp)
  · exact absurd h (by simp)
  · rcases h with ⟨h, -⟩ | ⟨h, -⟩ | ⟨a, q, e, h1, h2, h3⟩
    · exact absurd h (by dsimp only; omega)
    · exact absurd h (by dsimp only; omega)
    · refine ⟨q, e, ?_, h3⟩
      have : i.toNat - 2 = a := by dsimp only at h1; omega
      rw [this]; exact h2
theorem rvl_scr {ws : va_W} {b : Nat} {x : Value} (h : rvl ws b (3, 1) x) : x = .ref b := by
  rcases h with ⟨h, -⟩ | ⟨h, -⟩ | ⟨-, h⟩
  · exact absurd h (by simp)
  · exact absurd h (by simp)
  · rcases h with ⟨h, -⟩ | ⟨-, h⟩ | ⟨a, q, e, h1, -, -⟩
    · exact absurd h (by simp)
    · exact h
    · dsimp only at h1; omega
theorem rvl_z {ws : va_W} {b : Nat} {i : Int} {x : Value} (h : rvl ws b (0, i) x) : False := by
  rcases h with ⟨h, -⟩ | ⟨h, -⟩ | ⟨h, -⟩ <;> exact absurd h (by simp)
theorem rvl_cat {ws : va_W} {b : Nat} {v : Vl} {x : Value} (h : rvl ws b v x) : x.category = if v.1 = 2 then 2 else 1 := by
  rcases h with ⟨h, y, rfl, -⟩ | ⟨h, y, rfl, -⟩ | ⟨h, h2⟩
  · rw [h]; rfl
  · rw [h]; rfl
  · rw [h]
    rcases h2 with ⟨-, rfl⟩ | ⟨-, rfl⟩ | ⟨a, q, e, -, -, rfl⟩ <;> rfl
/-- cells keep their places and their addresses -/
def ext (ws w1 : va_W) : Prop := ∀ (a q : Nat) (e : va_E), ws[a]? = some (q, e) → ∃ e1, w1[a]? = some (q, e1)
theorem ext_rf {ws : va_W} : ext ws ws := fun _ _ e h => ⟨e, h⟩
theorem ext_tr {w0 w1 w2 : va_W} (h : ext w0 w1) (g : ext w1 w2) : ext w0 w2 := fun a q e k => by
  obtain ⟨e1, k1⟩ := h a q e k
  exact g a q e1 k1
theorem ext_set {ws : va_W} {a q : Nat} {e e1 : va_E} (h : ws[a]? = some (q, e)) : ext ws (ws.set a (q, e1)) := fun a' q' e' k => by
  have hl := (List.getElem?_eq_some_iff.mp h).1
  by_cases ha : a' = a
  · subst ha
    rw [h] at k; cases k
    exact ⟨e1, List.getElem?_set_self hl⟩
  · exact ⟨e', by rw [List.getElem?_set_ne (Ne.symm ha)]; exact k⟩
theorem ext_app {ws w1 : va_W} : ext ws (ws ++ w1) := fun a q e k => ⟨e, by rw [List.getElem?_append_left (List.getElem?_eq_some_iff.mp k).1]; exact k⟩
theorem rvl_ext {ws w1 : va_W} {b : Nat} {v : Vl} {x : Value} (g : ext ws w1) (h : rvl ws b v x) : rvl w1 b v x := by
  rcases h with h | h | ⟨h, h2⟩
  · exact Or.inl h
  · exact Or.inr (Or.inl h)
  · refine Or.inr (Or.inr ⟨h, ?_⟩)
    rcases h2 with h2 | h2 | ⟨a, q, e, h3, h4, h5⟩
    · exact Or.inl h2
    · exact Or.inr (Or.inl h2)
    · obtain ⟨e1, h6⟩ := g a q e h4
      exact Or.inr (Or.inr ⟨a, q, e1, h3, h6, h5⟩)
/-- a stack -/
def rvs (ws : va_W) (b : Nat) : List Vl → List Value → Prop
  | [], [] => True
  | v :: vs, x :: xs => rvl ws b v x ∧ rvs ws b vs xs
  | _, _ => False
theorem rvs_nil {ws : va_W} {b : Nat} {xs : List Value} (h : rvs ws b [] xs) : xs = [] := by
  cases xs with
  | nil => rfl
  | cons x xs => exact h.elim
theorem rvs_cons {ws : va_W} {b : Nat} {v : Vl} {vs : List Vl} {xs : List Value} (h : rvs ws b (v :: vs) xs) : ∃ (x : Value) (ys : List Value), xs = x :: ys ∧ rvl ws b v x ∧ rvs ws b vs ys := by
  cases xs with
  | nil => exact h.elim
  | cons x xs => exact ⟨x, xs, rfl, h.1, h.2⟩
theorem rvs_i {ws : va_W} {b : Nat} {i : Int} {vs : List Vl} {xs : List Value} (h : rvs ws b ((1, i) :: vs) xs) : ∃ (y : Int32) (ys : List Value), xs = .int y :: ys ∧ y.toInt = i ∧ rvs ws b vs ys := by
  obtain ⟨x, ys, rfl, h1, h2⟩ := rvs_cons h
  obtain ⟨y, rfl, h3⟩ := rvl_int h1
  exact ⟨y, ys, rfl, h3, h2⟩
theorem rvs_l {ws : va_W} {b : Nat} {i : Int} {vs : List Vl} {xs : List Value} (h : rvs ws b ((2, i) :: vs) xs) : ∃ (y : Int64) (ys : List Value), xs = .long y :: ys ∧ y.toInt = i ∧ rvs ws b vs ys := by
  obtain ⟨x, ys, rfl, h1, h2⟩ := rvs_cons h
  obtain ⟨y, rfl, h3⟩ := rvl_long h1
  exact ⟨y, ys, rfl, h3, h2⟩
theorem rvs_ii {ws : va_W} {b : Nat} {i : Int} {y : Int32} (h : y.toInt = i) : rvl ws b (1, i) (.int y) := Or.inl ⟨rfl, y, rfl, h⟩
theorem rvs_ll {ws : va_W} {b : Nat} {i : Int} {y : Int64} (h : y.toInt = i) : rvl ws b (2, i) (.long y) := Or.inr (Or.inl ⟨rfl, y, rfl, h⟩)
theorem rvs_rr {ws : va_W} {b q a : Nat} {e : va_E} (h : ws[a]? = some (q, e)) : rvl ws b (3, (a : Int) + 2) (.ref q) := Or.inr (Or.inr ⟨rfl, Or.inr (Or.inr ⟨a, q, e, rfl, h, rfl⟩)⟩)
theorem rvs_ext {ws w1 : va_W} {b : Nat} (g : ext ws w1) : ∀ {vs : List Vl} {xs : List Value}, rvs ws b vs xs → rvs w1 b vs xs
  | [], [], _ => trivial
  | [], _ :: _, h => h.elim
  | _ :: _, [], h => h.elim
  | _ :: _, _ :: _, h => ⟨rvl_ext g h.1, rvs_ext g h.2⟩
theorem rvs_len {ws : va_W} {b : Nat} : ∀ {vs : List Vl} {xs : List Value}, rvs ws b vs xs → xs.length = vs.length
  | [], [], _ => rfl
  | [], _ :: _, h => h.elim
  | _ :: _, [], h => h.elim
  | _ :: _, _ :: _, h => by simp [rvs_len h.2]
theorem rvs_app {ws : va_W} {b : Nat} : ∀ {vs : List Vl} {xs : List Value} {us : List Vl} {ys : List Value}, rvs ws b vs xs → rvs ws b us ys → rvs ws b (vs ++ us) (xs ++ ys)
  | [], [], _, _, _, g => g
  | [], _ :: _, _, _, h, _ => h.elim
  | _ :: _, [], _, _, h, _ => h.elim
  | _ :: _, _ :: _, _, _, h, g => ⟨h.1, rvs_app h.2 g⟩
theorem rvs_take {ws : va_W} {b : Nat} : ∀ (n : Nat) {vs : List Vl} {xs : List Value}, rvs ws b vs xs → rvs ws b (vs.take n) (xs.take n)
  | 0, _, _, _ => trivial
  | _ + 1, [], [], _ => trivial
  | _ + 1, [], _ :: _, h => h.elim
  | _ + 1, _ :: _, [], h => h.elim
  | n + 1, _ :: _, _ :: _, h => ⟨h.1, rvs_take n h.2⟩
theorem rvs_drop {ws : va_W} {b : Nat} : ∀ (n : Nat) {vs : List Vl} {xs : List Value}, rvs ws b vs xs → rvs ws b (vs.drop n) (xs.drop n)
  | 0, _, _, h => by simpa using h
  | _ + 1, [], [], _ => trivial
  | _ + 1, [], _ :: _, h => h.elim
  | _ + 1, _ :: _, [], h => h.elim
  | n + 1, _ :: _, _ :: _, h => rvs_drop n h.2
theorem rvs_rev {ws : va_W} {b : Nat} : ∀ {vs : List Vl} {xs : List Value}, rvs ws b vs xs → rvs ws b vs.reverse xs.reverse
  | [], [], _ => trivial
  | [], _ :: _, h => h.elim
  | _ :: _, [], h => h.elim
  | v :: vs, x :: xs, h => by
    rw [List.reverse_cons, List.reverse_cons]
    exact rvs_app (rvs_rev h.2) ⟨h.1, trivial⟩
theorem rvs_cats {ws : va_W} {b : Nat} : ∀ {vs : List Vl} {xs : List Value}, rvs ws b vs xs → (xs.map fun v => v.category).sum = cats vs
  | [], [], _ => rfl
  | [], _ :: _, h => h.elim
  | _ :: _, [], h => h.elim
  | v :: vs, x :: xs, h => by
    have h1 := rvs_cats h.2
    unfold cats at h1 ⊢
    rw [List.map_cons, List.sum_cons, List.map_cons, List.sum_cons, h1, rvl_cat h.1]
theorem rvs_nth {ws : va_W} {b : Nat} : ∀ {vs : List Vl} {xs : List Value} (i : Nat) {v : Vl}, rvs ws b vs xs → nth vs i = some v → ∃ x, xs[i]? = some x ∧ rvl ws b v x
  | [], _, _, _, _, h => by cases h
  | _ :: _, [], _, _, h, _ => h.elim
  | _ :: _, x :: _, 0, _, h, g => by cases g; exact ⟨x, rfl, h.1⟩
  | _ :: _, _ :: _, i + 1, _, h, g => by
    obtain ⟨x, h1, h2⟩ := rvs_nth i h.2 g
    exact ⟨x, by simpa using h1, h2⟩
theorem nth_get {α : Type} : ∀ (l : List α) (i : Nat), nth l i = l[i]?
  | [], _ => by simp [nth]
  | _ :: _, 0 => rfl
  | _ :: l, i + 1 => by simp [nth, nth_get l i]
/-- the local variables -/
def rls (ws : va_W) (b : Nat) (L : List Vl) (lv : List (Nat × Value)) : Prop := ∀ (i : Nat) (v : Vl), L[i]? = some v → v.1 ≠ 0 → ∃ x, (i, x) ∈ lv ∧ rvl ws b v x
theorem rls_ext {ws w1 : va_W} {b : Nat} {L : List Vl} {lv : List (Nat × Value)} (g : ext ws w1) (h : rls ws b L lv) : rls w1 b L lv := fun i v h1 h2 => by
  obtain ⟨x, h3, h4⟩ := h i v h1 h2
  exact ⟨x, h3, rvl_ext g h4⟩
theorem stL_len (L : List Vl) (i : Nat) (v : Vl) : (stL L i v).length = L.length := by
  unfold stL
  split <;> simp
theorem stL_at {L : List Vl} {i j : Nat} {v w : Vl} (h : (stL L i v)[j]? = some w) (hw : w.1 ≠ 0) : (j = i ∧ w = v) ∨ (j ≠ i ∧ L[j]? = some w ∧ (j + 1 = i → w.1 ≠ 2)) := by
  unfold stL at h
  by_cases hj : j = i
  · subst hj
    refine Or.inl ⟨rfl, ?_⟩
    have hl := (List.getElem?_eq_some_iff.mp h).1
    rw [List.length_set] at hl
    rw [List.getElem?_set_self hl] at h
    exact (Option.some.inj h).symm
  · refine Or.inr ⟨hj, ?_⟩
    rw [List.getElem?_set_ne (Ne.symm hj)] at h
    split at h
    · rename_i h2
      by_cases hk : j = i - 1
      · subst hk
        have hl := (List.getElem?_eq_some_iff.mp h).1
        rw [List.length_set] at hl
        rw [List.getElem?_set_self hl] at h
        exact absurd (by rw [← Option.some.inj h]) hw
      · rw [List.getElem?_set_ne (Ne.symm hk)] at h
        exact ⟨h, fun h3 => absurd (by omega) hk⟩
    · rename_i h2
      refine ⟨h, fun h3 h4 => h2 ?_⟩
      have : i - 1 = j := by omega
      rw [this, List.getD_eq_getElem?_getD, h]
      exact h4
theorem rls_st1 {ws : va_W} {b : Nat} {L : List Vl} {lv : List (Nat × Value)} {i : Nat} {v : Vl} {x : Value} (h : rls ws b L lv) (hx : rvl ws b v x) :
    rls ws b (stL L i v) ((i, x) :: lv.filter (fun q => !(q.1 == i) && !(q.1 + 1 == i && q.2.category == 2))) := by
  intro j w h1 h2
  rcases stL_at h1 h2 with ⟨rfl, rfl⟩ | ⟨hj, h3, h4⟩
  · exact ⟨x, List.mem_cons_self, hx⟩
  · obtain ⟨y, h5, h6⟩ := h j w h3 h2
    refine ⟨y, List.mem_cons_of_mem _ (List.mem_filter.mpr ⟨h5, ?_⟩), h6⟩
    have hc := rvl_cat h6
    simp only [Bool.and_eq_true, Bool.not_eq_true', beq_eq_false_iff_ne, ne_eq, Bool.and_eq_false_imp, beq_iff_eq]
    refine ⟨hj, fun h7 h8 => ?_⟩
    have := h4 h7
    rw [if_neg this] at hc
    omega
theorem rls_st2 {ws : va_W} {b : Nat} {L : List Vl} {lv : List (Nat × Value)} {i : Nat} {v : Vl} {x : Value} (h : rls ws b L lv) (hx : rvl ws b v x) :
    rls ws b (stL (L.set (i + 1) (0, 0)) i v) ((i, x) :: lv.filter (fun q => !(q.1 == i) && (!(q.1 == i + 1) && !(q.1 + 1 == i && q.2.category == 2)))) := by
  intro j w h1 h2
  rcases stL_at h1 h2 with ⟨rfl, rfl⟩ | ⟨hj, h3, h4⟩
  · exact ⟨x, List.mem_cons_self, hx⟩
  · have hj2 : j ≠ i + 1 := by
      intro hk
      subst hk
      have hl := (List.getElem?_eq_some_iff.mp h3).1
      rw [List.length_set] at hl
      rw [List.getElem?_set_self hl] at h3
      exact h2 (by rw [← Option.some.inj h3])
    rw [List.getElem?_set_ne (Ne.symm hj2)] at h3
    obtain ⟨y, h5, h6⟩ := h j w h3 h2
    refine ⟨y, List.mem_cons_of_mem _ (List.mem_filter.mpr ⟨h5, ?_⟩), h6⟩
    have hc := rvl_cat h6
    simp only [Bool.and_eq_true, Bool.not_eq_true', beq_eq_false_iff_ne, ne_eq, Bool.and_eq_false_imp, beq_iff_eq]
    refine ⟨hj, hj2, fun h7 h8 => ?_⟩
    have := h4 h7
    rw [if_neg this] at hc
    omega
/-- a cell -/
def cre (ws : va_W) (tys : List (ClassId × FieldType)) (b : Nat) (row : Nat → Int) (ly : Nat × Nat) (e : va_E) : Prop :=
  (ly.1 = 1 ∧ ∃ fs : List Value, e = .inr (ly.2, fs) ∧ ly.2 < 6 ∧ fs.length = cN ly.2 ∧ ∀ k, k < cN ly.2 → ∃ x, fs[k]? = some x ∧ rvl ws b ((if slotTag ly.2 k = 3 then 3 else 1), row k) x) ∨
  (ly.1 = 2 ∧ ∃ (cA : ClassId) (f : Nat → Int32), e = .inl (cA, ly.2, .inl f) ∧ (∃ t0 : Nat, tys[t0]? = some (cA, .int)) ∧ ∀ k, k < ly.2 → (f k).toInt = row k) ∨
  (ly.1 = 3 ∧ ∃ (cA : ClassId) (f : Nat → Int32), e = .inl (cA, ly.2, .inl f) ∧ (∃ t0 : Nat, tys[t0]? = some (cA, .boolean)) ∧ ∀ k, k < ly.2 → (f k).toInt = row k) ∨
  (ly.1 = 4 ∧ ∃ (cA : ClassId) (f : Nat → Option Nat), e = .inl (cA, ly.2, .inr (.inr (.inr (.inr f)))) ∧ (∃ t0 : Nat, tys[t0]? = some (cA, .object "FasterForTheRich$Town")) ∧ ∀ k, k < ly.2 → rvl ws b (3, row k) (va_rf (f k)))
def tyx (tys t1 : List (ClassId × FieldType)) : Prop := ∀ (t0 : Nat) (q : ClassId × FieldType), tys[t0]? = some q → ∃ t2 : Nat, t1[t2]? = some q
theorem tyx_app {tys t1 : List (ClassId × FieldType)} : tyx tys (tys ++ t1) := fun t0 q h => ⟨t0, by rw [List.getElem?_append_left (List.getElem?_eq_some_iff.mp h).1]; exact h⟩
theorem cre_ext {ws w1 : va_W} {tys t1 : List (ClassId × FieldType)} {b : Nat} {row : Nat → Int} {ly : Nat × Nat} {e : va_E} (g : ext ws w1) (gt : tyx tys t1) (h : cre ws tys b row ly e) : cre w1 t1 b row ly e := by
  rcases h with ⟨h0, fs, h1, h2, h3, h4⟩ | ⟨h0, cA, f, h1, ⟨t0, h2⟩, h3⟩ | ⟨h0, cA, f, h1, ⟨t0, h2⟩, h3⟩ | ⟨h0, cA, f, h1, ⟨t0, h2⟩, h3⟩
  · refine Or.inl ⟨h0, fs, h1, h2, h3, fun k hk => ?_⟩
    obtain ⟨x, h5, h6⟩ := h4 k hk
    exact ⟨x, h5, rvl_ext g h6⟩
  · exact Or.inr (Or.inl ⟨h0, cA, f, h1, gt t0 _ h2, h3⟩)
  · exact Or.inr (Or.inr (Or.inl ⟨h0, cA, f, h1, gt t0 _ h2, h3⟩))
  · exact Or.inr (Or.inr (Or.inr ⟨h0, cA, f, h1, gt t0 _ h2, fun k hk => rvl_ext g (h3 k hk)⟩))
/-- the store: every cell, and the script at the places 0 (how long) and 1 -/
def wre (ws : va_W) (tys : List (ClassId × FieldType)) (b L0 : Nat) (xs0 : Nat → Int32) (s : Sto) : Prop :=
  ws.length + 2 = s.1 ∧ (∀ (a q : Nat) (e : va_E), ws[a]? = some (q, e) → cre ws tys b (s.2 (a + 2)) (lay (a + 2)) e) ∧ s.2 0 0 = (L0 : Int) ∧ ∀ j, j < L0 → (xs0 j).toInt = s.2 1 j
theorem wre_up {ws : va_W} {tys : List (ClassId × FieldType)} {b L0 : Nat} {xs0 : Nat → Int32} {s : Sto} (h : wre ws tys b L0 xs0 s) {a q k : Nat} {e e1 : va_E} {x : Int} (ha : ws[a]? = some (q, e)) (hc : cre (ws.set a (q, e1)) tys b (upS s.2 (a + 2) k x (a + 2)) (lay (a + 2)) e1) :
    wre (ws.set a (q, e1)) tys b L0 xs0 (s.1, upS s.2 (a + 2) k x) := by
  obtain ⟨h1, h2, h3, h4⟩ := h
  have hl := (List.getElem?_eq_some_iff.mp ha).1
  have hne : ∀ a' : Nat, a' ≠ a + 2 → upS s.2 (a + 2) k x a' = s.2 a' := fun a' hn => by
    funext k'
    simp [upS, hn]
  refine ⟨by rw [List.length_set]; exact h1, fun a' q' e' hk => ?_, ?_, fun j hj => ?_⟩
  · by_cases haa : a' = a
    · subst haa
      rw [List.getElem?_set_self hl] at hk
      cases hk
      exact hc
    · rw [List.getElem?_set_ne (Ne.symm haa)] at hk
      show cre _ _ _ (upS s.2 (a + 2) k x (a' + 2)) _ _
      rw [hne (a' + 2) (by omega)]
      exact cre_ext (ext_set ha) (fun t0 q h => ⟨t0, h⟩) (h2 a' q' e' hk)
  · show upS s.2 (a + 2) k x 0 0 = _
    rw [hne 0 (by omega)]; exact h3
  · show _ = upS s.2 (a + 2) k x 1 j
    rw [hne 1 (by omega)]; exact h4 j hj
theorem wre_new {ws : va_W} {tys t1 : List (ClassId × FieldType)} {b L0 : Nat} {xs0 : Nat → Int32} {s : Sto} (h : wre ws tys b L0 xs0 s) {q : Nat} {e : va_E} (gt : tyx tys t1) (hc : cre (ws ++ [(q, e)]) t1 b (fun _ => 0) (lay s.1) e) :
    wre (ws ++ [(q, e)]) t1 b L0 xs0 (s.1 + 1, clS s.2 s.1) := by
  obtain ⟨h1, h2, h3, h4⟩ := h
  have hne : ∀ a' : Nat, a' ≠ s.1 → clS s.2 s.1 a' = s.2 a' := fun a' hn => by
    funext k'
    simp [clS, hn]
  refine ⟨by rw [List.length_append]; show _ + 1 + 2 = s.1 + 1; omega, fun a' q' e' hk => ?_, ?_, fun j hj => ?_⟩
  · show cre _ _ _ (clS s.2 s.1 (a' + 2)) _ _
    by_cases hl : a' < ws.length
    · rw [List.getElem?_append_left hl] at hk
      rw [hne (a' + 2) (by omega)]
      exact cre_ext ext_app gt (h2 a' q' e' hk)
    · rw [List.getElem?_append_right (by omega)] at hk
      have hz : a' - ws.length < 1 := (List.getElem?_eq_some_iff.mp hk).1
      have ha : a' + 2 = s.1 := by omega
      rw [show a' - ws.length = 0 by omega] at hk
      cases hk
      rw [ha]
      have : clS s.2 s.1 s.1 = fun _ => 0 := by funext k'; simp [clS]
      rw [this]
      exact hc
  · show clS s.2 s.1 0 0 = _
    rw [hne 0 (by omega)]; exact h3
  · show _ = clS s.2 s.1 1 j
    rw [hne 1 (by omega)]; exact h4 j hj
theorem wre_at {ws : va_W} {tys : List (ClassId × FieldType)} {b L0 : Nat} {xs0 : Nat → Int32} {s : Sto} (h : wre ws tys b L0 xs0 s) {i : Int} (hi : 2 ≤ i) {q : Nat} {e : va_E} (ha : ws[i.toNat - 2]? = some (q, e)) : cre ws tys b (s.2 i.toNat) (lay i.toNat) e := by
  have h1 := h.2.1 _ _ _ ha
  rw [show i.toNat - 2 + 2 = i.toNat by omega] at h1
  exact h1
end
section
/-! EACH INSTRUCTION OF THE SMALL MACHINE IS THE BIG ONE'S. -/
def At (G : Heap → List Loc → Sto → JFrame → Prop) (V : Heap → List Loc → va_W → List (ClassId × FieldType) → Sto → Prop) (mi : MethodId) (b nL pc : Nat) (L st : List Vl) (sto : Sto) : Prop :=
  ∀ (H : Heap) (locs : List Loc) (ls : Array Slot) (lv : List (Nat × Value)) (xs : List Value) (ws : va_W) (tys : List (ClassId × FieldType)), V H locs ws tys sto → lv_has ls nL lv → L.length = nL → rls ws b L lv → rvs ws b st xs → G H locs sto (F0 mi pc ls xs)
def Nx (G : Heap → List Loc → Sto → JFrame → Prop) (V : Heap → List Loc → va_W → List (ClassId × FieldType) → Sto → Prop) (mi : MethodId) (b nL nF : Nat) (sto : Sto) (A : Act) : Prop := match A with
  | (1, pc, _, _, _, _, L, st, _) => At G V mi b nL pc L st sto
  | (2, pc, a, k, _, v, L, st, _) => At G V mi b nL pc L ((v.1, sto.2 a k) :: st) sto
  | (3, pc, a, k, _, v, L, st, _) => At G V mi b nL pc L st (sto.1, upS sto.2 a k v.2)
  | (4, pc, a, k, _, _, L, st, _) => lay sto.1 = (a, k) ∧ sto.1 + 1 ≤ nF ∧ At G V mi b nL pc L ((3, (sto.1 : Int)) :: st) (sto.1 + 1, clS sto.2 sto.1)
  | (7, pc, _, _, _, v, L, st, _) => 0 ≤ v.2 ∧ v.2 < sto.2 0 0 ∧ At G V mi b nL pc L ((1, sto.2 1 v.2.toNat) :: st) sto
  | (8, pc, _, _, _, _, L, st, _) => At G V mi b nL pc L ((1, sto.2 0 0) :: st) sto
  | (9, pt, pf, _, bb, _, L, st, _) => if bb = true then At G V mi b nL pt L st sto else At G V mi b nL pf L st sto
  | _ => False
section PURE
variable {G : Heap → List Loc → Sto → JFrame → Prop} {V : Heap → List Loc → va_W → List (ClassId × FieldType) → Sto → Prop} {mi : MethodId} {b nL nF : Nat} {pc : Nat} {L st : List Vl} {sto : Sto}
theorem at_a1 {f : Int → Int} {g : Int32 → Int32} (hfg : ∀ x, (g x).toInt = f x.toInt) (row : ∀ H locs ls rest x, G H locs sto (F0 mi (pc + 1) ls (.int (g x) :: rest)) → G H locs sto (F0 mi pc ls (.int x :: rest))) (h : Nx G V mi b nL nF sto (a1 f pc L st)) : At G V mi b nL pc L st sto := by
  unfold a1 at h
  split at h
  · intro H locs ls lv xs ws tys hV hl hL hr hs
    obtain ⟨x', zs, rfl, hx, hs⟩ := rvs_i hs
    exact row _ _ _ _ _ (h H locs ls lv _ ws tys hV hl hL hr ⟨rvs_ii (by rw [hfg, hx]), hs⟩)
  · exact (show False from h).elim
theorem at_a2 {f : Int → Int → Int} {g : Int32 → Int32 → Int32} (hfg : ∀ x y, (g x y).toInt = f x.toInt y.toInt) (row : ∀ H locs ls rest x y, G H locs sto (F0 mi (pc + 1) ls (.int (g x y) :: rest)) → G H locs sto (F0 mi pc ls (.int y :: .int x :: rest))) (h : Nx G V mi b nL nF sto (a2 f pc L st)) : At G V mi b nL pc L st sto := by
  unfold a2 at h
  split at h
  · intro H locs ls lv xs ws tys hV hl hL hr hs
    obtain ⟨y', ys, rfl, hy, hs⟩ := rvs_i hs
    obtain ⟨x', zs, rfl, hx, hs⟩ := rvs_i hs
    exact row _ _ _ _ _ _ (h H locs ls lv _ ws tys hV hl hL hr ⟨rvs_ii (by rw [hfg, hx, hy]), hs⟩)
  · exact (show False from h).elim
theorem at_a2n {f : Int → Int → Int} {g : Int32 → Int32 → Int32} (hfg : ∀ x y, (g x y).toInt = f x.toInt y.toInt) (row : ∀ H locs ls rest x y, ¬ y = 0 → G H locs sto (F0 mi (pc + 1) ls (.int (g x y) :: rest)) → G H locs sto (F0 mi pc ls (.int y :: .int x :: rest))) (h : Nx G V mi b nL nF sto (a2n f pc L st)) : At G V mi b nL pc L st sto := by
  unfold a2n at h
  split at h
  · split at h
    · exact (show False from h).elim
    · rename_i hne
      intro H locs ls lv xs ws tys hV hl hL hr hs
      obtain ⟨y', ys, rfl, hy, hs⟩ := rvs_i hs
      obtain ⟨x', zs, rfl, hx, hs⟩ := rvs_i hs
      exact row _ _ _ _ _ _ (fun h0 => hne (by rw [← hy, h0]; rfl)) (h H locs ls lv _ ws tys hV hl hL hr ⟨rvs_ii (by rw [hfg, hx, hy]), hs⟩)
  · exact (show False from h).elim
theorem at_l2 {f : Int → Int → Int} {g : Int64 → Int64 → Int64} (hfg : ∀ x y, (g x y).toInt = f x.toInt y.toInt) (row : ∀ H locs ls rest x y, G H locs sto (F0 mi (pc + 1) ls (.long (g x y) :: rest)) → G H locs sto (F0 mi pc ls (.long y :: .long x :: rest))) (h : Nx G V mi b nL nF sto (l2 f pc L st)) : At G V mi b nL pc L st sto := by
  unfold l2 at h
  split at h
  · intro H locs ls lv xs ws tys hV hl hL hr hs
    obtain ⟨y', ys, rfl, hy, hs⟩ := rvs_l hs
    obtain ⟨x', zs, rfl, hx, hs⟩ := rvs_l hs
    exact row _ _ _ _ _ _ (h H locs ls lv _ ws tys hV hl hL hr ⟨rvs_ll (by rw [hfg, hx, hy]), hs⟩)
  · exact (show False from h).elim
theorem at_l2n {f : Int → Int → Int} {g : Int64 → Int64 → Int64} (hfg : ∀ x y, (g x y).toInt = f x.toInt y.toInt) (row : ∀ H locs ls rest x y, ¬ y = 0 → G H locs sto (F0 mi (pc + 1) ls (.long (g x y) :: rest)) → G H locs sto (F0 mi pc ls (.long y :: .long x :: rest))) (h : Nx G V mi b nL nF sto (l2n f pc L st)) : At G V mi b nL pc L st sto := by
  unfold l2n at h
  split at h
  · split at h
    · exact (show False from h).elim
    · rename_i hne
      intro H locs ls lv xs ws tys hV hl hL hr hs
      obtain ⟨y', ys, rfl, hy, hs⟩ := rvs_l hs
      obtain ⟨x', zs, rfl, hx, hs⟩ := rvs_l hs
      exact row _ _ _ _ _ _ (fun h0 => hne (by rw [← hy, h0]; rfl)) (h H locs ls lv _ ws tys hV hl hL hr ⟨rvs_ll (by rw [hfg, hx, hy]), hs⟩)
  · exact (show False from h).elim
/-- a number is pushed -/
theorem at_pi {w : Nat} {i : Int} {v : Int32} (hv : v.toInt = i) (row : ∀ H locs ls rest, G H locs sto (F0 mi (pc + w) ls (.int v :: rest)) → G H locs sto (F0 mi pc ls rest)) (h : At G V mi b nL (pc + w) L ((1, i) :: st) sto) : At G V mi b nL pc L st sto := by
  intro H locs ls lv xs ws tys hV hl hL hr hs
  exact row _ _ _ _ (h H locs ls lv _ ws tys hV hl hL hr ⟨rvs_ii hv, hs⟩)
theorem at_pl {w : Nat} {i : Int} {v : Int64} (hv : v.toInt = i) (row : ∀ H locs ls rest, G H locs sto (F0 mi (pc + w) ls (.long v :: rest)) → G H locs sto (F0 mi pc ls rest)) (h : At G V mi b nL (pc + w) L ((2, i) :: st) sto) : At G V mi b nL pc L st sto := by
  intro H locs ls lv xs ws tys hV hl hL hr hs
  exact row _ _ _ _ (h H locs ls lv _ ws tys hV hl hL hr ⟨rvs_ll hv, hs⟩)
theorem at_ld {t i w : Nat} (ht : t ≠ 0) (row : ∀ (ws : va_W) (v : Vl) (x : Value) H locs (ls : Array Slot) rest, v.1 = t → rvl ws b v x → ls[i]? = some (.val x) → G H locs sto (F0 mi (pc + w) ls (x :: rest)) → G H locs sto (F0 mi pc ls rest)) (h : Nx G V mi b nL nF sto (ldA t i w pc L st)) : At G V mi b nL pc L st sto := by
  unfold ldA at h
  split at h
  · rename_i u x hn
    split at h
    · rename_i hu
      subst hu
      intro H locs ls lv xs ws tys hV hl hL hr hs
      rw [nth_get] at hn
      obtain ⟨y, h1, h2⟩ := hr i _ hn ht
      exact row ws (u, x) y _ _ _ _ rfl h2 (hl.2.2 _ h1) (h H locs ls lv _ ws tys hV hl hL hr ⟨h2, hs⟩)
    · exact (show False from h).elim
  · exact (show False from h).elim
theorem at_st {t i w : Nat} (row : ∀ (ws : va_W) (v : Vl) (x : Value) (lv : List (Nat × Value)) H locs (ls : Array Slot) rest, v.1 = t → rvl ws b v x → lv_has ls nL lv → i < nL → (∀ ls', lv_has ls' nL ((i, x) :: lv.filter (fun q => !(q.1 == i) && !(q.1 + 1 == i && q.2.category == 2))) → G H locs sto (F0 mi (pc + w) ls' rest)) → G H locs sto (F0 mi pc ls (x :: rest))) (h : Nx G V mi b nL nF sto (stA t i w pc L st)) : At G V mi b nL pc L st sto := by
  unfold stA at h
  split at h
  · rename_i u x r
    split at h
    · rename_i hu
      obtain ⟨rfl, hi⟩ := hu
      intro H locs ls lv xs ws tys hV hl hL hr hs
      obtain ⟨y, ys, rfl, h1, h2⟩ := rvs_cons hs
      exact row ws (u, x) y lv _ _ _ _ rfl h1 hl (by omega) (fun ls' hl' => h H locs ls' _ _ ws tys hV hl' (by rw [stL_len]; exact hL) (rls_st1 hr h1) h2)
    · exact (show False from h).elim
  · exact (show False from h).elim
theorem at_st2 {i w : Nat} (row : ∀ (x : Int64) (lv : List (Nat × Value)) H locs (ls : Array Slot) rest, lv_has ls nL lv → i + 1 < nL → (∀ ls', lv_has ls' nL ((i, .long x) :: lv.filter (fun q => !(q.1 == i) && (!(q.1 == i + 1) && !(q.1 + 1 == i && q.2.category == 2)))) → G H locs sto (F0 mi (pc + w) ls' rest)) → G H locs sto (F0 mi pc ls (.long x :: rest))) (h : Nx G V mi b nL nF sto (stA2 i w pc L st)) : At G V mi b nL pc L st sto := by
  unfold stA2 at h
  split at h
  · rename_i x r
    split at h
    · rename_i hi
      intro H locs ls lv xs ws tys hV hl hL hr hs
      obtain ⟨y, ys, rfl, h1, h2⟩ := rvs_l hs
      exact row y lv _ _ _ _ hl (by omega) (fun ls' hl' => h H locs ls' _ _ ws tys hV hl' (by rw [stL_len, List.length_set]; exact hL) (rls_st2 hr (rvs_ll h1)) h2)
    · exact (show False from h).elim
  · exact (show False from h).elim
theorem at_inc {i len : Nat} {n : Int} (row : len = 3 → ∀ (x : Int32) (lv : List (Nat × Value)) (k : Nat) H locs (ls : Array Slot) rest, lv[k]? = some (i, .int x) → lv_has ls nL lv → i < nL → (∀ ls', lv_has ls' nL ((i, .int (x + Int32.ofInt n)) :: lv.filter (fun q => !(q.1 == i) && !(q.1 + 1 == i && q.2.category == 2))) → G H locs sto (F0 mi (pc + 3) ls' rest)) → G H locs sto (F0 mi pc ls rest)) (h : Nx G V mi b nL nF sto (inA i n len pc L st)) : At G V mi b nL pc L st sto := by
  unfold inA at h
  split at h
  · rename_i x hn
    split at h
    · rename_i hlen
      intro H locs ls lv xs ws tys hV hl hL hr hs
      rw [nth_get] at hn
      obtain ⟨y, h1, h2⟩ := hr i _ hn (by simp)
      obtain ⟨y', rfl, hy⟩ := rvl_int h2
      obtain ⟨k, hk⟩ := List.getElem?_of_mem h1
      have hi : i < nL := by rw [← hL]; exact (List.getElem?_eq_some_iff.mp hn).1
      refine row hlen y' lv k _ _ _ _ hk hl hi (fun ls' hl' => h H locs ls' _ _ ws tys hV hl' (by rw [stL_len]; exact hL) (rls_st1 hr (rvs_ii ?_)) hs)
      rw [Int32.toInt_add, Int32.toInt_ofInt, hy]
      rfl
    · exact (show False from h).elim
  · exact (show False from h).elim
theorem at_jmp {off : Int} (row : ∀ (tgt : Nat) H locs ls rest, (pc : Int) + off = (tgt : Int) → G H locs sto (F0 mi tgt ls rest) → G H locs sto (F0 mi pc ls rest)) (h : Nx G V mi b nL nF sto (jmp pc off L st)) : At G V mi b nL pc L st sto := by
  unfold jmp at h
  split at h
  · intro H locs ls lv xs ws tys hV hl hL hr hs
    exact row _ _ _ _ _ (by omega) (h H locs ls lv _ ws tys hV hl hL hr hs)
  · exact (show False from h).elim
theorem at_if {cn : ClassFile.Cond} {off : Int} {P : Int32 → Prop} (hP : ∀ x, P x ↔ cmpB cn x.toInt 0 = true) (row : ∀ (tgt : Nat) H locs ls rest x, (pc : Int) + off = (tgt : Int) → (P x → G H locs sto (F0 mi tgt ls rest)) → (¬ P x → G H locs sto (F0 mi (pc + 3) ls rest)) → G H locs sto (F0 mi pc ls (.int x :: rest))) (h : Nx G V mi b nL nF sto (ifA cn off pc L st)) : At G V mi b nL pc L st sto := by
  unfold ifA at h
  split at h
  · unfold brA at h
    split at h
    · intro H locs ls lv xs ws tys hV hl hL hr hs
      obtain ⟨y', ys, rfl, hy, hs⟩ := rvs_i hs
      refine row ((pc : Int) + off).toNat _ _ _ _ _ (by omega) (fun hp => ?_) (fun hp => ?_)
      · rw [hP, hy] at hp
        have h : if (cmpB cn _ 0 = true) then _ else _ := h
        rw [if_pos hp] at h
        exact h H locs ls lv _ ws tys hV hl hL hr hs
      · rw [hP, hy] at hp
        have h : if (cmpB cn _ 0 = true) then _ else _ := h
        rw [if_neg hp] at h
        exact h H locs ls lv _ ws tys hV hl hL hr hs
    · exact (show False from h).elim
  · exact (show False from h).elim
theorem at_ic {cn : ClassFile.Cond} {off : Int} {P : Int32 → Int32 → Prop} (hP : ∀ x y, P x y ↔ cmpB cn x.toInt y.toInt = true) (row : ∀ (tgt : Nat) H locs ls rest x y, (pc : Int) + off = (tgt : Int) → (P x y → G H locs sto (F0 mi tgt ls rest)) → (¬ P x y → G H locs sto (F0 mi (pc + 3) ls rest)) → G H locs sto (F0 mi pc ls (.int y :: .int x :: rest))) (h : Nx G V mi b nL nF sto (icA cn off pc L st)) : At G V mi b nL pc L st sto := by
  unfold icA at h
  split at h
  · unfold brA at h
    split at h
    · intro H locs ls lv xs ws tys hV hl hL hr hs
      obtain ⟨y', ys, rfl, hy, hs⟩ := rvs_i hs
      obtain ⟨x', zs, rfl, hx, hs⟩ := rvs_i hs
      refine row ((pc : Int) + off).toNat _ _ _ _ _ _ (by omega) (fun hp => ?_) (fun hp => ?_)
      · rw [hP, hy, hx] at hp
        have h : if (cmpB cn _ _ = true) then _ else _ := h
        rw [if_pos hp] at h
        exact h H locs ls lv _ ws tys hV hl hL hr hs
      · rw [hP, hy, hx] at hp
        have h : if (cmpB cn _ _ = true) then _ else _ := h
        rw [if_neg hp] at h
        exact h H locs ls lv _ ws tys hV hl hL hr hs
    · exact (show False from h).elim
  · exact (show False from h).elim
theorem at_ts {dflt lo hi : Int} {offs : Array Int} (row1 : ∀ (tgt : Nat) H locs ls rest (x : Int32), (pc : Int) + dflt = (tgt : Int) → (x.toInt < lo ∨ hi < x.toInt) → G H locs sto (F0 mi tgt ls rest) → G H locs sto (F0 mi pc ls (.int x :: rest)))
    (row2 : ∀ (tgt : Nat) (off : Int) H locs ls rest (x : Int32), (pc : Int) + off = (tgt : Int) → ¬ x.toInt < lo → ¬ hi < x.toInt → offs[(x.toInt - lo).toNat]? = some off → G H locs sto (F0 mi tgt ls rest) → G H locs sto (F0 mi pc ls (.int x :: rest)))
    (h : Nx G V mi b nL nF sto (tsA dflt lo hi offs pc L st)) : At G V mi b nL pc L st sto := by
  unfold tsA at h
  split at h
  · intro H locs ls lv xs ws tys hV hl hL hr hs
    obtain ⟨x', zs, rfl, hx, hs⟩ := rvs_i hs
    split at h
    · rename_i hc
      unfold jmp at h
      split at h
      · exact row1 ((pc : Int) + dflt).toNat _ _ _ _ _ (by omega) (by rw [hx]; exact hc) (h H locs ls lv _ ws tys hV hl hL hr hs)
      · exact (show False from h).elim
    · rename_i hc
      split at h
      · rename_i off ho
        unfold jmp at h
        split at h
        · exact row2 ((pc : Int) + off).toNat off _ _ _ _ _ (by omega) (by rw [hx]; omega) (by rw [hx]; omega) (by rw [hx]; exact ho) (h H locs ls lv _ ws tys hV hl hL hr hs)
        · exact (show False from h).elim
      · exact (show False from h).elim
  · exact (show False from h).elim
theorem at_lk {dflt : Int} {ps : Array (Int × Int)} (row : ∀ (tgt : Nat) (off : Int) H locs ls rest (x : Int32), (pc : Int) + off = (tgt : Int) → Op.lookupswitch.offset ps.toList dflt x.toInt = off → G H locs sto (F0 mi tgt ls rest) → G H locs sto (F0 mi pc ls (.int x :: rest))) (h : Nx G V mi b nL nF sto (lkA dflt ps pc L st)) : At G V mi b nL pc L st sto := by
  unfold lkA at h
  split at h
  · rename_i x r
    intro H locs ls lv xs ws tys hV hl hL hr hs
    obtain ⟨x', zs, rfl, hx, hs⟩ := rvs_i hs
    unfold jmp at h
    split at h
    · rename_i h0
      exact row ((pc : Int) + Op.lookupswitch.offset ps.toList dflt x).toNat (Op.lookupswitch.offset ps.toList dflt x) _ _ _ _ _ (by omega) (by rw [hx]) (h H locs ls lv _ ws tys hV hl hL hr hs)
    · exact (show False from h).elim
  · exact (show False from h).elim
theorem at_lc (row : ∀ H locs ls rest (x y : Int64), G H locs sto (F0 mi (pc + 1) ls (.int (lg_cmp x y) :: rest)) → G H locs sto (F0 mi pc ls (.long y :: .long x :: rest))) (h : Nx G V mi b nL nF sto (lcA pc L st)) : At G V mi b nL pc L st sto := by
  unfold lcA at h
  split at h
  · intro H locs ls lv xs ws tys hV hl hL hr hs
    obtain ⟨y', ys, rfl, hy, hs⟩ := rvs_l hs
    obtain ⟨x', zs, rfl, hx, hs⟩ := rvs_l hs
    refine row _ _ _ _ _ _ (h H locs ls lv _ ws tys hV hl hL hr ⟨rvs_ii ?_, hs⟩)
    rw [← hx, ← hy]
    unfold lg_cmp xlcmp
    by_cases h1 : y' < x'
    · rw [if_pos h1, if_pos (Int64.lt_iff_toInt_lt.mp h1)]; rfl
    · rw [if_neg h1, if_neg (fun h2 => h1 (Int64.lt_iff_toInt_lt.mpr h2))]
      by_cases h2 : x' = y'
      · rw [if_pos h2, if_pos (by rw [h2])]; rfl
      · rw [if_neg h2, if_neg (fun h3 => h2 (Int64.toInt_inj.mp h3))]; rfl
  · exact (show False from h).elim
theorem at_il (row : ∀ H locs ls rest (x : Int32), G H locs sto (F0 mi (pc + 1) ls (.long x.toInt64 :: rest)) → G H locs sto (F0 mi pc ls (.int x :: rest))) (h : Nx G V mi b nL nF sto (ilA pc L st)) : At G V mi b nL pc L st sto := by
  unfold ilA at h
  split at h
  · intro H locs ls lv xs ws tys hV hl hL hr hs
    obtain ⟨x', zs, rfl, hx, hs⟩ := rvs_i hs
    exact row _ _ _ _ _ (h H locs ls lv _ ws tys hV hl hL hr ⟨rvs_ll (by rw [← hx]; exact Int32.toInt_toInt64 x'), hs⟩)
  · exact (show False from h).elim
theorem at_dp (row : ∀ H locs ls rest (x : Value), x.category = 1 → G H locs sto (F0 mi (pc + 1) ls (x :: x :: rest)) → G H locs sto (F0 mi pc ls (x :: rest))) (h : Nx G V mi b nL nF sto (dpA pc L st)) : At G V mi b nL pc L st sto := by
  unfold dpA at h
  split at h
  · split at h
    · rename_i hv
      intro H locs ls lv xs ws tys hV hl hL hr hs
      obtain ⟨y, ys, rfl, h1, h2⟩ := rvs_cons hs
      have hc := rvl_cat h1
      rw [if_neg (by omega)] at hc
      exact row _ _ _ _ _ hc (h H locs ls lv _ ws tys hV hl hL hr ⟨h1, h1, h2⟩)
    · exact (show False from h).elim
  · exact (show False from h).elim
theorem at_d2 (row2 : ∀ H locs ls rest (x : Value), x.category = 2 → G H locs sto (F0 mi (pc + 1) ls (x :: x :: rest)) → G H locs sto (F0 mi pc ls (x :: rest))) (row11 : ∀ H locs ls rest (x y : Value), x.category = 1 → y.category = 1 → G H locs sto (F0 mi (pc + 1) ls (x :: y :: x :: y :: rest)) → G H locs sto (F0 mi pc ls (x :: y :: rest))) (h : Nx G V mi b nL nF sto (d2A pc L st)) : At G V mi b nL pc L st sto := by
  unfold d2A at h
  split at h
  · intro H locs ls lv xs ws tys hV hl hL hr hs
    obtain ⟨y, ys, rfl, h1, h2⟩ := rvs_cons hs
    obtain ⟨z, zs, rfl, h3, h4⟩ := rvs_cons h2
    have hc := rvl_cat h1
    have hd := rvl_cat h3
    split at h
    · rename_i hv
      rw [if_pos hv] at hc
      exact row2 _ _ _ _ _ hc (h H locs ls lv _ ws tys hV hl hL hr ⟨h1, h1, h3, h4⟩)
    · split at h
      · rename_i hv
        rw [if_neg (by omega)] at hc hd
        exact row11 _ _ _ _ _ _ hc hd (h H locs ls lv _ ws tys hV hl hL hr ⟨h1, h3, h1, h3, h4⟩)
      · exact (show False from h).elim
  · exact (show False from h).elim
theorem at_mm {r2 : Int} (row : ∀ H locs ls rest (x y : Int32), (rest.map fun v => v.category).sum ≤ 8 → G H locs sto (F0 mi (pc + 3) ls (.int (if r2 = 1 then (if y < x then y else x) else (if x < y then y else x)) :: rest)) → G H locs sto (F0 mi pc ls (.int y :: .int x :: rest))) (h : Nx G V mi b nL nF sto (mmA r2 pc L st)) : At G V mi b nL pc L st sto := by
  unfold mmA at h
  split at h
  · split at h
    · rename_i hc
      intro H locs ls lv xs ws tys hV hl hL hr hs
      obtain ⟨y', ys, rfl, hy, hs⟩ := rvs_i hs
      obtain ⟨x', zs, rfl, hx, hs⟩ := rvs_i hs
      refine row _ _ _ _ _ _ (by rw [rvs_cats hs]; exact hc) (h H locs ls lv _ ws tys hV hl hL hr ⟨rvs_ii ?_, hs⟩)
      rw [← hx, ← hy]
      by_cases h0 : r2 = 1
      · rw [if_pos h0, if_pos h0]
        by_cases h1 : y' < x'
        · rw [if_pos h1, if_pos (Int32.lt_iff_toInt_lt.mp h1)]
        · rw [if_neg h1, if_neg (fun h2 => h1 (Int32.lt_iff_toInt_lt.mpr h2))]
      · rw [if_neg h0, if_neg h0]
        by_cases h1 : x' < y'
        · rw [if_pos h1, if_pos (Int32.lt_iff_toInt_lt.mp h1)]
        · rw [if_neg h1, if_neg (fun h2 => h1 (Int32.lt_iff_toInt_lt.mpr h2))]
    · exact (show False from h).elim
  · exact (show False from h).elim
end PURE
end
section
/-! THE TABLES' WORDS, link by link. -/
def oT : List String := ["FasterForTheRich", "FasterForTheRich$History", "FasterForTheRich$Kinds", "FasterForTheRich$Letters", "FasterForTheRich$Numbers", "FasterForTheRich$Row", "FasterForTheRich$Town", "FasterForTheRichLaw", "FasterForTheRichModel", "java/lang/Integer"]
def tO : List Nat := [9, 2, 2, 2, 1, 6, 1, 6, 1, 1, 1, 3, 3, 6, 6, 3, 6, 3, 6, 3, 6, 3, 3, 6, 6, 6, 6, 6, 6, 6, 6, 3, 3, 3, 3, 4, 3, 3, 4, 4, 4, 4, 5, 5, 5, 6, 6, 6, 6, 6, 6, 6, 6, 6, 6, 6, 6, 6, 0, 0, 0, 0, 0, 0, 0, 0, 0, 0, 0, 0, 0, 0, 0, 0, 0, 0, 0, 0, 0, 0, 0, 0, 0, 0, 0, 0, 0, 0, 0, 0, 0, 0, 0, 0, 0, 0, 0, 0, 0, 0, 0, 0, 0, 0, 0, 0, 0, 0, 0, 0, 0, 0, 0, 0, 0, 0, 0, 0, 0, 0, 0, 0, 0, 0, 0, 0, 0, 0, 0, 0, 0, 0, 0, 0, 8, 8, 8, 8, 8, 8, 8, 8, 8, 8, 8, 8, 8, 8, 8, 8, 8, 8, 8, 8, 8, 8, 8, 8, 8, 8, 8, 8, 8, 8, 8, 8, 8, 8, 8, 8, 8, 8, 8, 8, 8, 8, 8, 8, 8, 8, 8, 8, 8, 8, 8, 8, 8, 8, 8, 8, 8, 8, 8, 8, 8, 8, 8, 8, 8, 8, 8, 8, 8, 8, 8, 8, 8, 8, 8, 8, 8, 8, 8, 8, 8, 8, 8, 8, 8, 8, 8, 8, 8, 8, 8, 7]
def sTb : List Bool := [true, true, true, true, false, false, false, false, false, false, false, false, false, false, false, true, false, true, false, true, false, true, true, false, false, false, false, false, false, false, false, false, true, true, false, false, false, false, false, false, false, false, false, false, false, false, false, false, false, false, false, false, false, false, false, false, false, false, true, false, false, true, true, false, false, false, false, true, true, false, false, false, false, false, false, false, false, true, false, true, false, false, false, false, false, false, false, false, false, false, false, false, false, false, false, false, false, false, false, false, false, false, false, false, false, false, false, false, false, false, false, false, false, false, false, false, false, false, false, false, false, false, false, false, false, false, false, false, false, false, false, false, false, false, true, false, false, false, false, false, false, true, true, false, true, false, false, false, false, false, false, false, false, false, false, false, false, false, false, false, false, false, false, false, false, false, false, false, false, false, false, false, false, true, true, true, false, false, false, false, false, false, false, false, false, false, false, false, false, false, true, false, false, false, false, false, false, false, false, false, false, false, false, false, false, false, false, false, false, false, false, false, false, false, false, false, false, false, false, false, false, false, false, false, false, true]
def iniT : List Nat := [5, 6, 35, 36, 44, 97, 189]
def luT : List (List Nat) := [[199, 201, 203, 205, 207, 209, 211, 213], [111, 113, 115, 117, 119, 121, 123, 125, 127, 129, 131], [148, 150, 152], [177, 179], [188, 189], [804, 806, 808, 810, 812, 814, 816, 818, 820, 822, 824, 826, 828, 830, 832, 834, 836, 838, 840, 842, 844, 846, 848, 850, 852, 854, 856, 858, 860, 862, 864, 866, 868]]
def flT_0 : List (Nat × Nat × Nat × Nat × Nat × Nat) := [(0, 10, 0, 0, 191, 9999), (0, 16, 0, 1, 192, 9999), (0, 19, 0, 2, 193, 9999), (0, 22, 0, 3, 194, 9999), (0, 29, 0, 4, 195, 9999), (0, 36, 0, 5, 196, 9999), (0, 43, 0, 6, 197, 9999), (0, 47, 0, 7, 198, 9999), (0, 92, 1, 0, 88, 9999), (0, 95, 1, 1, 90, 9999), (0, 98, 1, 2, 92, 9999), (0, 101, 1, 3, 94, 9999), (0, 104, 1, 4, 97, 9999), (0, 107, 1, 5, 100, 9999), (0, 115, 1, 6, 103, 9999), (0, 118, 1, 7, 105, 9999), (0, 136, 1, 9, 108, 9999), (0, 304, 1, 10, 110, 9999), (1, 11, 2, 0, 145, 9999), (1, 16, 2, 1, 146, 9999), (1, 20, 2, 2, 147, 9999), (3, 11, 3, 1, 175, 176), (3, 15, 3, 0, 170, 171), (3, 74, 1, 3, 95, 9999), (3, 84, 1, 4, 98, 9999), (3, 87, 1, 5, 101, 9999), (4, 13, 3, 0, 167, 9999), (4, 13, 4, 0, 167, 9999), (4, 19, 3, 1, 172, 9999), (4, 19, 4, 1, 172, 9999), (5, 11, 4, 1, 173, 174), (5, 15, 4, 0, 168, 169), (6, 9, 1, 0, 87, 9999), (6, 15, 1, 1, 89, 9999), (6, 18, 1, 2, 91, 9999), (6, 21, 1, 3, 93, 9999), (6, 24, 1, 4, 96, 9999), (6, 27, 1, 5, 99, 9999), (6, 31, 1, 6, 102, 9999), (6, 34, 1, 7, 104, 9999)]
def flT_1 : List (Nat × Nat × Nat × Nat × Nat × Nat) := [(6, 37, 1, 8, 106, 9999), (6, 40, 1, 9, 107, 9999), (6, 44, 1, 10, 109, 9999), (8, 7, 5, 1, 772, 9999), (8, 13, 5, 2, 773, 9999), (8, 16, 5, 3, 774, 9999), (8, 19, 5, 4, 775, 9999), (8, 22, 5, 5, 776, 9999), (8, 25, 5, 6, 777, 9999), (8, 28, 5, 7, 778, 9999), (8, 31, 5, 8, 779, 9999), (8, 34, 5, 11, 782, 9999), (8, 37, 5, 12, 783, 9999), (8, 40, 5, 13, 784, 9999), (8, 43, 5, 18, 789, 9999), (8, 46, 5, 19, 790, 9999), (8, 49, 5, 20, 791, 9999), (8, 52, 5, 21, 792, 9999), (8, 55, 5, 22, 793, 9999), (8, 58, 5, 27, 798, 9999), (8, 61, 5, 28, 799, 9999), (8, 64, 5, 30, 801, 9999), (8, 67, 5, 10, 781, 9999), (8, 71, 5, 0, 771, 9999), (8, 89, 5, 9, 780, 9999), (8, 109, 5, 14, 785, 9999), (8, 112, 5, 15, 786, 9999), (8, 115, 5, 16, 787, 9999), (8, 130, 5, 17, 788, 9999), (8, 168, 5, 29, 800, 9999), (8, 171, 5, 25, 796, 9999), (8, 174, 5, 26, 797, 9999), (8, 177, 5, 24, 795, 9999), (8, 187, 5, 23, 794, 9999), (8, 232, 5, 31, 802, 9999), (8, 261, 5, 32, 803, 9999)]
def flT : List (Nat × Nat × Nat × Nat × Nat × Nat) := flT_0 ++ flT_1
def meT_0 : List (Nat × Nat × Nat × Nat × Bool) := [(0, 453, 72, 452, true), (1, 343, 71, 342, true), (2, 356, 71, 355, true), (3, 340, 71, 339, true), (4, 366, 65, 364, false), (5, 85, 64, 84, false), (6, 140, 65, 139, false), (7, 257, 64, 255, false), (8, 410, 65, 408, false), (9, 477, 65, 475, false), (10, 481, 65, 479, false), (11, 269, 67, 268, false)]
def meT_1 : List (Nat × Nat × Nat × Nat × Bool) := [(12, 273, 67, 272, false), (13, 280, 64, 278, false), (14, 284, 64, 282, false), (15, 276, 67, 275, true), (16, 292, 64, 290, false), (17, 288, 67, 287, true), (18, 299, 64, 297, false), (19, 295, 67, 294, true), (20, 306, 64, 304, false), (21, 302, 67, 301, true), (22, 309, 67, 308, true), (23, 313, 64, 311, false)]
def meT_2 : List (Nat × Nat × Nat × Nat × Bool) := [(24, 326, 64, 324, false), (25, 321, 64, 320, false), (26, 337, 64, 335, false), (27, 333, 64, 331, false), (28, 353, 64, 351, false), (29, 349, 64, 348, false), (30, 317, 64, 315, false), (31, 265, 67, 264, false), (32, 253, 67, 252, true), (33, 250, 67, 249, true), (34, 247, 67, 245, false), (35, 162, 66, 161, false)]
def meT_3 : List (Nat × Nat × Nat × Nat × Bool) := [(36, 159, 67, 158, false), (37, 261, 67, 259, false), (38, 228, 66, 227, false), (39, 238, 66, 237, false), (40, 362, 66, 361, false), (41, 737, 66, 736, false), (42, 724, 69, 722, false), (43, 616, 69, 614, false), (44, 186, 69, 185, false), (45, 468, 64, 467, false), (46, 599, 64, 597, false), (47, 557, 64, 555, false)]
def meT_4 : List (Nat × Nat × Nat × Nat × Bool) := [(48, 464, 64, 462, false), (49, 392, 64, 390, false), (50, 748, 64, 746, false), (51, 450, 64, 448, false), (52, 446, 64, 444, false), (53, 501, 64, 499, false), (54, 497, 64, 495, false), (55, 535, 64, 533, false), (56, 442, 64, 440, false), (57, 388, 64, 386, false), (58, 222, 63, 221, true), (59, 232, 63, 231, false)]
def meT_5 : List (Nat × Nat × Nat × Nat × Bool) := [(60, 682, 63, 680, false), (61, 378, 63, 377, true), (62, 381, 63, 380, true), (63, 489, 63, 487, false), (64, 678, 63, 676, false), (65, 473, 63, 471, false), (66, 374, 63, 373, false), (67, 406, 63, 405, true), (68, 384, 63, 383, true), (69, 485, 63, 483, false), (70, 531, 63, 530, false), (71, 527, 63, 525, false)]
def meT_6 : List (Nat × Nat × Nat × Nat × Bool) := [(72, 544, 63, 542, false), (73, 420, 63, 419, false), (74, 539, 63, 537, false), (75, 731, 63, 729, false), (76, 760, 63, 758, false), (77, 659, 63, 658, true), (78, 656, 63, 655, false), (79, 662, 63, 661, true), (80, 651, 63, 649, false), (81, 219, 63, 217, false), (82, 630, 63, 629, false), (83, 702, 63, 701, false)]
def meT_7 : List (Nat × Nat × Nat × Nat × Bool) := [(84, 698, 63, 696, false), (85, 522, 63, 520, false), (86, 429, 63, 427, false), (87, 647, 63, 646, false), (88, 643, 63, 642, false), (89, 639, 63, 637, false), (90, 590, 63, 588, false), (91, 611, 63, 610, false), (92, 437, 63, 436, false), (93, 433, 63, 431, false), (94, 513, 63, 512, false), (95, 607, 63, 606, false)]
def meT_8 : List (Nat × Nat × Nat × Nat × Bool) := [(96, 752, 63, 750, false), (97, 77, 63, 76, false), (98, 670, 63, 669, false), (99, 720, 63, 718, false), (100, 625, 63, 624, false), (101, 493, 63, 491, false), (102, 621, 63, 620, false), (103, 425, 63, 423, false), (104, 509, 63, 508, false), (105, 518, 63, 517, false), (106, 505, 63, 503, false), (107, 569, 63, 568, false)]
def meT_9 : List (Nat × Nat × Nat × Nat × Bool) := [(108, 577, 63, 576, false), (109, 741, 63, 739, false), (110, 674, 63, 672, false), (111, 549, 63, 547, false), (112, 553, 63, 551, false), (113, 460, 63, 458, false), (114, 565, 63, 564, false), (115, 397, 63, 395, false), (116, 370, 63, 368, false), (117, 581, 63, 579, false), (118, 756, 63, 754, false), (119, 666, 63, 664, false)]
def meT_10 : List (Nat × Nat × Nat × Nat × Bool) := [(120, 686, 63, 684, false), (121, 710, 63, 708, false), (122, 573, 63, 571, false), (123, 706, 63, 704, false), (124, 403, 63, 401, false), (125, 595, 63, 593, false), (126, 586, 63, 584, false), (127, 243, 63, 241, false), (128, 561, 63, 559, false), (129, 690, 63, 688, false), (130, 416, 63, 414, false), (131, 694, 63, 692, false)]
def meT_11 : List (Nat × Nat × Nat × Nat × Bool) := [(132, 603, 63, 601, false), (133, 634, 63, 632, false), (134, 1002, 70, 1001, true), (135, 878, 70, 877, false), (136, 962, 70, 961, false), (137, 1186, 70, 1184, false), (138, 918, 70, 917, false), (139, 914, 70, 913, false), (140, 970, 70, 969, false), (141, 906, 70, 905, true), (142, 999, 70, 998, true), (143, 910, 70, 909, false)]
def meT_12 : List (Nat × Nat × Nat × Nat × Bool) := [(144, 946, 70, 945, true), (145, 958, 70, 957, false), (146, 954, 70, 953, false), (147, 950, 70, 949, false), (148, 1026, 70, 1025, false), (149, 1034, 70, 1033, false), (150, 1042, 70, 1040, false), (151, 1162, 70, 1161, false), (152, 1096, 70, 1095, false), (153, 1174, 70, 1173, false), (154, 1178, 70, 1176, false), (155, 930, 70, 929, false)]
def meT_13 : List (Nat × Nat × Nat × Nat × Bool) := [(156, 938, 70, 937, false), (157, 982, 70, 980, false), (158, 1038, 70, 1036, false), (159, 1050, 70, 1049, false), (160, 1075, 70, 1074, false), (161, 1071, 70, 1069, false), (162, 1083, 70, 1081, false), (163, 1079, 70, 1077, false), (164, 1214, 70, 1212, false), (165, 926, 70, 925, false), (166, 934, 70, 933, false), (167, 966, 70, 965, false)]
def meT_14 : List (Nat × Nat × Nat × Nat × Bool) := [(168, 943, 70, 942, false), (169, 922, 70, 921, false), (170, 1233, 70, 1232, false), (171, 1229, 70, 1227, false), (172, 1059, 70, 1058, false), (173, 1154, 70, 1153, true), (174, 1148, 70, 1147, true), (175, 1151, 70, 1150, true), (176, 1144, 70, 1142, false), (177, 1222, 70, 1221, false), (178, 874, 70, 872, false), (179, 1198, 70, 1196, false)]
def meT_15 : List (Nat × Nat × Nat × Nat × Bool) := [(180, 1067, 70, 1065, false), (181, 1006, 70, 1005, false), (182, 1018, 70, 1016, false), (183, 1140, 70, 1139, false), (184, 1136, 70, 1134, false), (185, 890, 70, 889, false), (186, 1120, 70, 1118, false), (187, 1022, 70, 1020, false), (188, 974, 70, 972, false), (189, 769, 70, 768, false), (190, 893, 70, 892, true), (191, 1128, 70, 1127, false)]
def meT_16 : List (Nat × Nat × Nat × Nat × Bool) := [(192, 1210, 70, 1208, false), (193, 1046, 70, 1044, false), (194, 1014, 70, 1012, false), (195, 1063, 70, 1062, false), (196, 1054, 70, 1052, false), (197, 1218, 70, 1216, false), (198, 1170, 70, 1168, false), (199, 1088, 70, 1086, false), (200, 1092, 70, 1090, false), (201, 1030, 70, 1028, false), (202, 991, 70, 989, false), (203, 986, 70, 984, false)]
def meT_17 : List (Nat × Nat × Nat × Nat × Bool) := [(204, 901, 70, 900, false), (205, 897, 70, 896, false), (206, 886, 70, 885, false), (207, 1104, 70, 1103, false), (208, 1112, 70, 1110, false), (209, 978, 70, 976, false), (210, 1166, 70, 1164, false), (211, 1182, 70, 1180, false), (212, 1206, 70, 1204, false), (213, 1108, 70, 1106, false), (214, 1202, 70, 1200, false), (215, 996, 70, 994, false)]
def meT_18 : List (Nat × Nat × Nat × Nat × Bool) := [(216, 1158, 70, 1156, false), (217, 1116, 70, 1114, false), (218, 882, 70, 880, false), (219, 1100, 70, 1098, false), (220, 1190, 70, 1188, false), (221, 1010, 70, 1008, false), (222, 1194, 70, 1192, false), (223, 1124, 70, 1122, false), (224, 1132, 70, 1130, false)]
def meT : List (Nat × Nat × Nat × Nat × Bool) := meT_0 ++ meT_1 ++ meT_2 ++ meT_3 ++ meT_4 ++ meT_5 ++ meT_6 ++ meT_7 ++ meT_8 ++ meT_9 ++ meT_10 ++ meT_11 ++ meT_12 ++ meT_13 ++ meT_14 ++ meT_15 ++ meT_16 ++ meT_17 ++ meT_18
def mlT_0 : List (Nat × Nat × Nat × Nat × Nat × List Nat) := [(0, 9, 5, 100, 83, []), (0, 28, 6, 100, 138, []), (0, 35, 36, 100, 157, []), (0, 42, 44, 100, 184, []), (0, 51, 58, 101, 220, []), (0, 55, 38, 3, 223, [224, 226]), (0, 59, 59, 0, 229, [0]), (0, 63, 39, 3, 233, [234, 236]), (0, 66, 34, 0, 244, [246]), (0, 70, 7, 0, 254, [256]), (0, 74, 37, 0, 258, [260]), (0, 78, 40, 3, 357, [358, 360]), (0, 81, 4, 0, 363, [365]), (0, 82, 66, 0, 371, [6]), (0, 85, 61, 101, 376, []), (0, 89, 62, 101, 379, []), (0, 111, 68, 101, 382, []), (0, 121, 57, 0, 385, [387]), (0, 124, 49, 0, 389, [391]), (0, 127, 28, 0, 393, [352]), (0, 131, 13, 0, 398, [279]), (0, 132, 14, 0, 399, [283]), (0, 140, 67, 101, 404, []), (0, 142, 8, 0, 407, [409]), (0, 145, 18, 0, 412, [298]), (0, 149, 73, 0, 417, [7]), (0, 152, 20, 0, 421, [305]), (0, 155, 92, 0, 434, [8]), (0, 158, 56, 0, 439, [441]), (0, 162, 52, 0, 443, [445]), (0, 165, 48, 0, 461, [463]), (0, 168, 30, 0, 469, [316]), (0, 171, 9, 0, 474, [476]), (0, 174, 10, 0, 478, [480]), (0, 177, 54, 0, 494, [496]), (0, 180, 104, 0, 506, [10]), (0, 183, 94, 0, 510, [11]), (0, 186, 105, 0, 515, [12]), (0, 189, 27, 0, 514, [332]), (0, 192, 53, 0, 523, [500]), (0, 195, 70, 0, 528, [13]), (0, 198, 55, 0, 532, [534]), (0, 207, 47, 0, 554, [556]), (0, 210, 114, 0, 562, [14]), (0, 213, 107, 0, 566, [15]), (0, 216, 108, 0, 574, [16]), (0, 223, 3, 101, 591, []), (0, 229, 46, 0, 596, [598]), (0, 232, 95, 0, 604, [17]), (0, 235, 102, 0, 618, [19])]
def mlT_1 : List (Nat × Nat × Nat × Nat × Nat × List Nat) := [(0, 238, 100, 0, 622, [20]), (0, 241, 82, 0, 627, [21]), (0, 244, 26, 0, 612, [336]), (0, 247, 43, 0, 613, [615]), (0, 251, 91, 0, 608, [18]), (0, 254, 1, 101, 626, []), (0, 257, 24, 0, 635, [325]), (0, 260, 88, 0, 640, [22]), (0, 264, 87, 0, 644, [23]), (0, 269, 78, 0, 653, [24]), (0, 273, 77, 101, 657, []), (0, 277, 79, 101, 660, []), (0, 281, 98, 0, 667, [25]), (0, 284, 16, 0, 375, [291]), (0, 287, 83, 0, 699, [26]), (0, 290, 38, 4, 711, [712, 713]), (0, 291, 39, 4, 714, [715, 716]), (0, 292, 42, 0, 721, [723]), (0, 296, 40, 4, 725, [726, 727]), (0, 297, 41, 4, 732, [733, 735]), (0, 301, 50, 0, 745, [747]), (0, 307, 51, 0, 761, [449]), (0, 310, 41, 3, 762, [763, 764]), (0, 311, 23, 0, 438, [312]), (1, 15, 5, 100, 144, []), (1, 23, 7, 0, 411, [256]), (3, 5, 35, 100, 160, []), (3, 19, 33, 101, 248, []), (3, 23, 32, 101, 251, []), (3, 27, 31, 0, 262, [1]), (3, 31, 11, 0, 266, [2]), (3, 34, 12, 0, 270, [3]), (3, 37, 15, 101, 274, []), (3, 41, 17, 101, 286, []), (3, 45, 19, 101, 293, []), (3, 48, 21, 101, 300, []), (3, 51, 22, 101, 307, []), (3, 54, 23, 0, 310, [312]), (3, 60, 30, 0, 314, [316]), (3, 63, 13, 0, 277, [279]), (3, 67, 14, 0, 281, [283]), (3, 71, 16, 0, 289, [291]), (3, 77, 18, 0, 296, [298]), (3, 81, 20, 0, 303, [305]), (4, 23, 38, 34, 239, [1236, 1237, 1238]), (5, 5, 35, 100, 187, []), (6, 47, 13, 0, 285, [279]), (6, 57, 3, 101, 338, []), (6, 63, 26, 0, 334, [336]), (6, 66, 1, 101, 341, [])]
def mlT_2 : List (Nat × Nat × Nat × Nat × Nat × List Nat) := [(6, 69, 53, 0, 498, [500]), (6, 72, 24, 0, 323, [325]), (6, 75, 2, 101, 354, []), (6, 82, 18, 0, 345, [298]), (6, 86, 27, 0, 330, [332]), (6, 89, 25, 0, 318, [4]), (6, 92, 29, 0, 346, [5]), (6, 95, 16, 0, 322, [291]), (6, 99, 28, 0, 350, [352]), (6, 102, 51, 0, 447, [449]), (6, 106, 0, 101, 451, []), (6, 112, 45, 0, 465, [9]), (7, 9, 97, 100, 75, []), (7, 12, 189, 100, 767, []), (7, 13, 81, 0, 216, [218]), (7, 17, 178, 0, 871, [873]), (7, 18, 127, 0, 240, [242]), (7, 22, 218, 0, 879, [881]), (7, 23, 116, 0, 367, [369]), (7, 27, 203, 0, 983, [985]), (7, 28, 115, 0, 394, [396]), (7, 32, 202, 0, 988, [990]), (7, 33, 124, 0, 400, [402]), (7, 36, 215, 0, 993, [995]), (7, 37, 130, 0, 413, [415]), (7, 40, 221, 0, 1007, [1009]), (7, 41, 103, 0, 422, [424]), (7, 44, 194, 0, 1011, [1013]), (7, 45, 86, 0, 426, [428]), (7, 48, 182, 0, 1015, [1017]), (7, 49, 93, 0, 430, [432]), (7, 52, 187, 0, 1019, [1021]), (7, 53, 113, 0, 457, [459]), (7, 56, 201, 0, 1027, [1029]), (7, 57, 65, 0, 470, [472]), (7, 60, 157, 0, 979, [981]), (7, 61, 69, 0, 482, [484]), (7, 64, 158, 0, 1035, [1037]), (7, 65, 63, 0, 486, [488]), (7, 68, 150, 0, 1039, [1041]), (7, 69, 101, 0, 490, [492]), (7, 72, 193, 0, 1043, [1045]), (7, 73, 106, 0, 502, [504]), (7, 76, 196, 0, 1051, [1053]), (7, 77, 85, 0, 519, [521]), (7, 80, 180, 0, 1064, [1066]), (7, 81, 71, 0, 524, [526]), (7, 84, 161, 0, 1068, [1070]), (7, 85, 74, 0, 536, [538]), (7, 88, 163, 0, 1076, [1078])]
def mlT_3 : List (Nat × Nat × Nat × Nat × Nat × List Nat) := [(7, 89, 72, 0, 541, [543]), (7, 92, 162, 0, 1080, [1082]), (7, 93, 111, 0, 546, [548]), (7, 96, 199, 0, 1085, [1087]), (7, 97, 112, 0, 550, [552]), (7, 100, 200, 0, 1089, [1091]), (7, 101, 128, 0, 558, [560]), (7, 104, 219, 0, 1097, [1099]), (7, 105, 122, 0, 570, [572]), (7, 108, 213, 0, 1105, [1107]), (7, 109, 117, 0, 578, [580]), (7, 112, 208, 0, 1109, [1111]), (7, 113, 126, 0, 583, [585]), (7, 116, 217, 0, 1113, [1115]), (7, 117, 90, 0, 587, [589]), (7, 120, 186, 0, 1117, [1119]), (7, 121, 132, 0, 600, [602]), (7, 124, 223, 0, 1121, [1123]), (7, 125, 133, 0, 631, [633]), (7, 128, 224, 0, 1129, [1131]), (7, 129, 89, 0, 636, [638]), (7, 132, 184, 0, 1133, [1135]), (7, 133, 80, 0, 648, [650]), (7, 137, 176, 0, 1141, [1143]), (7, 138, 125, 0, 592, [594]), (7, 141, 216, 0, 1155, [1157]), (7, 142, 119, 0, 663, [665]), (7, 145, 210, 0, 1163, [1165]), (7, 146, 110, 0, 671, [673]), (7, 150, 198, 0, 1167, [1169]), (7, 151, 64, 0, 675, [677]), (7, 154, 154, 0, 1175, [1177]), (7, 155, 120, 0, 683, [685]), (7, 158, 211, 0, 1179, [1181]), (7, 159, 60, 0, 679, [681]), (7, 162, 137, 0, 1183, [1185]), (7, 163, 129, 0, 687, [689]), (7, 166, 220, 0, 1187, [1189]), (7, 167, 131, 0, 691, [693]), (7, 170, 222, 0, 1191, [1193]), (7, 171, 84, 0, 695, [697]), (7, 174, 179, 0, 1195, [1197]), (7, 175, 123, 0, 703, [705]), (7, 178, 214, 0, 1199, [1201]), (7, 179, 121, 0, 707, [709]), (7, 182, 212, 0, 1203, [1205]), (7, 183, 99, 0, 717, [719]), (7, 186, 192, 0, 1207, [1209]), (7, 187, 75, 0, 728, [730]), (7, 190, 164, 0, 1211, [1213])]
def mlT_4 : List (Nat × Nat × Nat × Nat × Nat × List Nat) := [(7, 191, 109, 0, 738, [740]), (7, 194, 197, 0, 1215, [1217]), (7, 195, 96, 0, 749, [751]), (7, 198, 188, 0, 971, [973]), (7, 199, 118, 0, 753, [755]), (7, 202, 209, 0, 975, [977]), (7, 203, 76, 0, 757, [759]), (7, 206, 171, 0, 1226, [1228]), (8, 74, 141, 101, 904, []), (8, 78, 155, 0, 927, [37]), (8, 82, 136, 0, 959, [44]), (8, 86, 145, 0, 955, [43]), (8, 92, 144, 101, 944, []), (8, 96, 146, 0, 951, [42]), (8, 99, 147, 0, 947, [41]), (8, 103, 167, 0, 963, [45]), (8, 106, 135, 0, 875, [27]), (8, 119, 185, 0, 887, [29]), (8, 127, 204, 0, 898, [31]), (8, 133, 190, 101, 891, []), (8, 136, 205, 0, 894, [30]), (8, 140, 165, 0, 923, [36]), (8, 144, 166, 0, 931, [38]), (8, 147, 156, 0, 935, [39]), (8, 153, 168, 0, 940, [40]), (8, 156, 206, 0, 883, [28]), (8, 159, 143, 0, 907, [32]), (8, 162, 169, 0, 919, [35]), (8, 165, 140, 0, 967, [46]), (8, 180, 138, 0, 915, [34]), (8, 183, 139, 0, 911, [33]), (8, 194, 142, 101, 997, []), (8, 198, 134, 101, 1000, []), (8, 201, 181, 0, 1003, [47]), (8, 204, 148, 0, 1023, [48]), (8, 207, 149, 0, 1031, [49]), (8, 210, 159, 0, 1047, [50]), (8, 215, 172, 0, 1056, [51]), (8, 218, 195, 0, 1060, [52]), (8, 221, 160, 0, 1072, [53]), (8, 226, 152, 0, 1093, [54]), (8, 229, 207, 0, 1101, [55]), (8, 235, 191, 0, 1125, [56]), (8, 238, 183, 0, 1137, [57]), (8, 242, 173, 101, 1152, []), (8, 248, 174, 101, 1146, []), (8, 251, 175, 101, 1149, []), (8, 255, 151, 0, 1159, [58]), (8, 258, 153, 0, 1171, [59]), (8, 267, 177, 0, 1219, [60])]
def mlT_5 : List (Nat × Nat × Nat × Nat × Nat × List Nat) := [(8, 270, 170, 0, 1230, [61])]
def mlT : List (Nat × Nat × Nat × Nat × Nat × List Nat) := mlT_0 ++ mlT_1 ++ mlT_2 ++ mlT_3 ++ mlT_4 ++ mlT_5
def obT_0 : List (Nat × Nat × Nat) := [(0, 1, 78), (1, 1, 141), (4, 1, 163), (6, 3, 86), (8, 1, 770)]
def obT : List (Nat × Nat × Nat) := obT_0
def miT_0 : List (Nat × Nat × Nat) := [(0, 201, 540), (6, 51, 327)]
def miT : List (Nat × Nat × Nat) := miT_0
def mxT_0 : List (Nat × Nat × Nat) := [(0, 220, 582), (4, 7, 164), (5, 19, 617), (6, 79, 344)]
def mxT : List (Nat × Nat × Nat) := mxT_0
def koT_0 : List (Nat × Nat × Int × Nat) := [(0, 206, 1000000000, 545), (0, 298, 1103515245, 742), (0, 299, 2147483647, 743), (0, 300, 65536, 744), (8, 225, 1000000000, 1084), (8, 264, 1103515245, 1223), (8, 265, 2147483647, 1224), (8, 266, 65536, 1225), (9, 265, 1431655765, 454), (9, 266, 858993459, 455), (9, 267, 252645135, 456)]
def koT : List (Nat × Nat × Int × Nat) := koT_0
def klT_0 : List (Nat × Nat × Int × Nat) := [(0, 267, 4000000000000000000, 652), (8, 123, 48, 902), (8, 125, 57, 903), (8, 151, 12, 939), (8, 190, 10, 987), (8, 192, 5, 992), (8, 213, 3, 1055), (8, 246, 4000000000000000000, 1145), (8, 273, 11, 1234), (8, 275, 16, 1235)]
def klT : List (Nat × Nat × Int × Nat) := klT_0
def nwT_0 : List (Nat × Nat × Nat × Nat × Nat × Nat) := [(0, 7, 1, 81, 82, 64), (0, 26, 2, 136, 137, 65), (0, 33, 3, 155, 156, 67), (0, 40, 4, 182, 183, 69), (1, 9, 1, 142, 82, 64), (7, 7, 0, 73, 74, 63), (7, 10, 5, 765, 766, 70)]
def nwT : List (Nat × Nat × Nat × Nat × Nat × Nat) := nwT_0
def anT_0 : List (Nat × Nat × Nat × Nat) := [(1, 9, 142, 143)]
def anT : List (Nat × Nat × Nat × Nat) := anT_0
def oS (o : Nat) : String := oT.getD o ""
def mO (m : Nat) : Nat := tO.getD m 99
def mS (m : Nat) : Bool := sTb.getD m false
def atW (i : Nat) (w : Cond) : Bool := decide (lw_tbl[i]? = some w) && goodWord w
/-- the tables' words that a callee may take over -/
def gw_tbl : List Cond := lw_tbl.filter goodWord
theorem atW.mem {i : Nat} {w : Cond} (h : atW i w = true) : w ∈ gw_tbl := by
  unfold atW at h
  rw [Bool.and_eq_true] at h
  exact List.mem_filter.mpr ⟨List.mem_of_getElem? (of_decide_eq_true h.1), h.2⟩
def flRef (ci k w2 : Nat) : String := if w2 = 9999 then (cT ci k).1 else cC ci
/-- own, index, class, slot, word, word of the same field -/
def okFl (q : Nat × Nat × Nat × Nat × Nat × Nat) : Bool := match q with
  | (o, i, ci, k, w1, w2) => decide (k < cN ci) && atW w1 (.fieldLink (oS o) i (flRef ci k w2) (cT ci k).2.1 (cT ci k).2.2.1) && (decide (w2 = 9999) || atW w2 (.sameField (cC ci) (cT ci k).1 (cT ci k).2.1 (cT ci k).2.2.1))
def npar (d : String) : Option Nat := (parseMethodDescriptor d).map (fun d => d.parameters.length)
def okMH (c : String) : Bool := decide (c ≠ "java/lang/invoke/MethodHandle") && decide (c ≠ "java/lang/invoke/VarHandle")
/-- a method: its code, its class's start, static or not -/
def okMe (q : Nat × Nat × Nat × Nat × Bool) : Bool := match q with
  | (j, w1, w2, w3, st) => decide (st = mS j) && decide ((mY j).cls = oS (mO j)) && atW w1 (.code (mY j) (mB j) (mL j) (mR j)) && atW w2 (.initialized (oS (mO j))) && (if st = true then atW w3 (.static (mY j)) else atW w3 (.instanceMethod (mY j))) && decide (npar (mY j).desc = some (if st = true then mNA j else mNA j - 1)) && (st || decide (1 ≤ mNA j)) && okMH (oS (mO j)) && plainName (oS (mO j))
def xU (r : Nat) (y : MethodName) : MethodName := ⟨if r = 34 then "FasterForTheRich$Numbers" else cC r, y.name, y.desc⟩
/-- a call: own, index, method, kind, words -/
def okMl (q : Nat × Nat × Nat × Nat × Nat × List Nat) : Bool := match q with
  | (o, i, j, kind, w1, ws) => decide (mS j = decide (kind = 101)) && (if kind = 100 then atW w1 (.methodLink (oS o) i (mY j)) && decide ((mY j).name = "<init>") && decide (mR j = none) else if kind = 101 then atW w1 (.methodLink (oS o) i (mY j)) else if kind = 0 then atW w1 (.methodLink (oS o) i (mY j)) && atW (ws.getD 0 0) (.selects (mY j).cls (mY j) (mY j)) else atW w1 (.methodLink (oS o) i (xU kind (mY j))) && atW (ws.getD 0 0) (.sameMethod (xU kind (mY j)).cls (mY j).cls (mY j).name (mY j).desc) && ((cis kind).zip (ws.drop 1)).all (fun z => atW z.2 (.selects (cC z.1) (xU kind (mY j)) (mY j))) && decide ((cis kind).length = (ws.drop 1).length))
def okOb (q : Nat × Nat × Nat) : Bool := match q with
  | (o, i, w) => atW w (.methodLink (oS o) i Lib.objectInit)
def okMi (q : Nat × Nat × Nat) : Bool := match q with
  | (o, i, w) => atW w (.methodLink (oS o) i Lib.Math.min.name)
def okMx (q : Nat × Nat × Nat) : Bool := match q with
  | (o, i, w) => atW w (.methodLink (oS o) i Lib.Math.max.name)
def okKo (q : Nat × Nat × Int × Nat) : Bool := match q with
  | (o, i, v, w) => atW w (.constant (oS o) i (Int32.ofInt v)) && decide ((Int32.ofInt v).toInt = v)
def okKl (q : Nat × Nat × Int × Nat) : Bool := match q with
  | (o, i, v, w) => atW w (.constantLong (oS o) i (Int64.ofInt v)) && decide ((Int64.ofInt v).toInt = v)
def okNw (q : Nat × Nat × Nat × Nat × Nat × Nat) : Bool := match q with
  | (o, i, ci, w1, w2, w3) => decide (ci < 6) && atW w1 (.classLink (oS o) i (cC ci)) && atW w2 (.instantiable (cC ci) (cN ci)) && atW w3 (.initialized (cC ci))
def okAn (q : Nat × Nat × Nat × Nat) : Bool := match q with
  | (o, i, w1, _) => atW w1 (.classLink (oS o) i "FasterForTheRich$Town")
theorem flT_0_ok : flT_0.all okFl = true := by decide +kernel
theorem flT_1_ok : flT_1.all okFl = true := by decide +kernel
theorem flT_ok : ∀ q ∈ flT, okFl q = true := fun q h => ((List.mem_append.mp h).elim (fun h => (List.all_eq_true.mp flT_0_ok q h)) (fun h => (List.all_eq_true.mp flT_1_ok q h)))
theorem meT_0_ok : meT_0.all okMe = true := by decide +kernel
theorem meT_1_ok : meT_1.all okMe = true := by decide +kernel
theorem meT_2_ok : meT_2.all okMe = true := by decide +kernel
theorem meT_3_ok : meT_3.all okMe = true := by decide +kernel
theorem meT_4_ok : meT_4.all okMe = true := by decide +kernel
theorem meT_5_ok : meT_5.all okMe = true := by decide +kernel
theorem meT_6_ok : meT_6.all okMe = true := by decide +kernel
theorem meT_7_ok : meT_7.all okMe = true := by decide +kernel
theorem meT_8_ok : meT_8.all okMe = true := by decide +kernel
theorem meT_9_ok : meT_9.all okMe = true := by decide +kernel
theorem meT_10_ok : meT_10.all okMe = true := by decide +kernel
theorem meT_11_ok : meT_11.all okMe = true := by decide +kernel
theorem meT_12_ok : meT_12.all okMe = true := by decide +kernel
theorem meT_13_ok : meT_13.all okMe = true := by decide +kernel
theorem meT_14_ok : meT_14.all okMe = true := by decide +kernel
theorem meT_15_ok : meT_15.all okMe = true := by decide +kernel
theorem meT_16_ok : meT_16.all okMe = true := by decide +kernel
theorem meT_17_ok : meT_17.all okMe = true := by decide +kernel
theorem meT_18_ok : meT_18.all okMe = true := by decide +kernel
theorem meT_ok : ∀ q ∈ meT, okMe q = true := fun q h => ((List.mem_append.mp h).elim (fun h => ((List.mem_append.mp h).elim (fun h => ((List.mem_append.mp h).elim (fun h => ((List.mem_append.mp h).elim (fun h => ((List.mem_append.mp h).elim (fun h => ((List.mem_append.mp h).elim (fun h => ((List.mem_append.mp h).elim (fun h => ((List.mem_append.mp h).elim (fun h => ((List.mem_append.mp h).elim (fun h => ((List.mem_append.mp h).elim (fun h => ((List.mem_append.mp h).elim (fun h => ((List.mem_append.mp h).elim (fun h => ((List.mem_append.mp h).elim (fun h => ((List.mem_append.mp h).elim (fun h => ((List.mem_append.mp h).elim (fun h => ((List.mem_append.mp h).elim (fun h => ((List.mem_append.mp h).elim (fun h => ((List.mem_append.mp h).elim (fun h => (List.all_eq_true.mp meT_0_ok q h)) (fun h => (List.all_eq_true.mp meT_1_ok q h)))) (fun h => (List.all_eq_true.mp meT_2_ok q h)))) (fun h => (List.all_eq_true.mp meT_3_ok q h)))) (fun h => (List.all_eq_true.mp meT_4_ok q h)))) (fun h => (List.all_eq_true.mp meT_5_ok q h)))) (fun h => (List.all_eq_true.mp meT_6_ok q h)))) (fun h => (List.all_eq_true.mp meT_7_ok q h)))) (fun h => (List.all_eq_true.mp meT_8_ok q h)))) (fun h => (List.all_eq_true.mp meT_9_ok q h)))) (fun h => (List.all_eq_true.mp meT_10_ok q h)))) (fun h => (List.all_eq_true.mp meT_11_ok q h)))) (fun h => (List.all_eq_true.mp meT_12_ok q h)))) (fun h => (List.all_eq_true.mp meT_13_ok q h)))) (fun h => (List.all_eq_true.mp meT_14_ok q h)))) (fun h => (List.all_eq_true.mp meT_15_ok q h)))) (fun h => (List.all_eq_true.mp meT_16_ok q h)))) (fun h => (List.all_eq_true.mp meT_17_ok q h)))) (fun h => (List.all_eq_true.mp meT_18_ok q h)))
theorem mlT_0_ok : mlT_0.all okMl = true := by decide +kernel
theorem mlT_1_ok : mlT_1.all okMl = true := by decide +kernel
theorem mlT_2_ok : mlT_2.all okMl = true := by decide +kernel
theorem mlT_3_ok : mlT_3.all okMl = true := by decide +kernel
theorem mlT_4_ok : mlT_4.all okMl = true := by decide +kernel
theorem mlT_5_ok : mlT_5.all okMl = true := by decide +kernel
theorem mlT_ok : ∀ q ∈ mlT, okMl q = true := fun q h => ((List.mem_append.mp h).elim (fun h => ((List.mem_append.mp h).elim (fun h => ((List.mem_append.mp h).elim (fun h => ((List.mem_append.mp h).elim (fun h => ((List.mem_append.mp h).elim (fun h => (List.all_eq_true.mp mlT_0_ok q h)) (fun h => (List.all_eq_true.mp mlT_1_ok q h)))) (fun h => (List.all_eq_true.mp mlT_2_ok q h)))) (fun h => (List.all_eq_true.mp mlT_3_ok q h)))) (fun h => (List.all_eq_true.mp mlT_4_ok q h)))) (fun h => (List.all_eq_true.mp mlT_5_ok q h)))
theorem obT_0_ok : obT_0.all okOb = true := by decide +kernel
theorem obT_ok : ∀ q ∈ obT, okOb q = true := fun q h => (List.all_eq_true.mp obT_0_ok q h)
theorem miT_0_ok : miT_0.all okMi = true := by decide +kernel
theorem miT_ok : ∀ q ∈ miT, okMi q = true := fun q h => (List.all_eq_true.mp miT_0_ok q h)
theorem mxT_0_ok : mxT_0.all okMx = true := by decide +kernel
theorem mxT_ok : ∀ q ∈ mxT, okMx q = true := fun q h => (List.all_eq_true.mp mxT_0_ok q h)
theorem koT_0_ok : koT_0.all okKo = true := by decide +kernel
theorem koT_ok : ∀ q ∈ koT, okKo q = true := fun q h => (List.all_eq_true.mp koT_0_ok q h)
theorem klT_0_ok : klT_0.all okKl = true := by decide +kernel
theorem klT_ok : ∀ q ∈ klT, okKl q = true := fun q h => (List.all_eq_true.mp klT_0_ok q h)
theorem nwT_0_ok : nwT_0.all okNw = true := by decide +kernel
theorem nwT_ok : ∀ q ∈ nwT, okNw q = true := fun q h => (List.all_eq_true.mp nwT_0_ok q h)
theorem anT_0_ok : anT_0.all okAn = true := by decide +kernel
theorem anT_ok : ∀ q ∈ anT, okAn q = true := fun q h => (List.all_eq_true.mp anT_0_ok q h)
theorem acI_ok : atW 134 (.arrayClass .int) = true := by decide +kernel
theorem acZ_ok : atW 135 (.arrayClass .boolean) = true := by decide +kernel
theorem miS_ok : atW 328 (.static Lib.Math.min.name) = true := by decide +kernel
theorem miC_ok : atW 329 (.code Lib.Math.min.name Lib.Math.min.code 2 (some .int)) = true := by decide +kernel
theorem mxS_ok : atW 165 (.static Lib.Math.max.name) = true := by decide +kernel
theorem mxC_ok : atW 166 (.code Lib.Math.max.name Lib.Math.max.code 2 (some .int)) = true := by decide +kernel
theorem maI_ok : atW 68 (.initialized "java/lang/Math") = true := by decide +kernel
theorem aoW : (Cond.arrayOver (.object "FasterForTheRich$Town")) ∈ lw_tbl := List.mem_of_getElem? (i := 143) (by decide +kernel)
theorem meT_has : (List.range 225).all (fun j => meT.any (fun q => q.1 == j)) = true := by decide +kernel
theorem obI_ok : atW 79 (.instanceMethod Lib.objectInit) = true := by decide +kernel
theorem obC_ok : atW 80 (.code Lib.objectInit ⟨#[0xb1]⟩ 1 none) = true := by decide +kernel
end
section
/-! EACH ENTRY IS THE INSTRUCTION AT ITS PLACE, and its links are among those of part 03. -/
def has3 (l : List (Nat × Nat × Nat × Nat × Nat × Nat)) (o i ci k : Nat) : Bool := l.any (fun q => q.1 == o && q.2.1 == i && q.2.2.1 == ci && q.2.2.2.1 == k)
def hasM (l : List (Nat × Nat × Nat × Nat × Nat × List Nat)) (o i j kind : Nat) : Bool := l.any (fun q => q.1 == o && q.2.1 == i && q.2.2.1 == j && q.2.2.2.1 == kind)
def hasI {α : Type} (l : List (Nat × Nat × α)) (o i : Nat) : Bool := l.any (fun q => q.1 == o && q.2.1 == i)
def hasK (l : List (Nat × Nat × Int × Nat)) (o i : Nat) (v : Int) : Bool := l.any (fun q => q.1 == o && q.2.1 == i && decide (q.2.2.1 = v))
def hasN (l : List (Nat × Nat × Nat × Nat × Nat × Nat)) (o i ci : Nat) : Bool := l.any (fun q => q.1 == o && q.2.1 == i && q.2.2.1 == ci)
def okRoom (m j : Nat) : Bool := decide (j < 225 ) && decide (mFr j + 1 ≤ mFr m) && decide (8 + (mL j + 11) + mLo j ≤ mLo m)
def okX (m o : Nat) (e : Ent) : Bool := match e with
  | (i, len, r1, r2) => match i with
    | .getfield i => (cis r1).all (fun ci => has3 flT o i ci r2.toNat)
    | .putfield i => (cis r1).all (fun ci => has3 flT o i ci r2.toNat && ((cT ci r2.toNat).2.2.2 == false || (iniT.contains m && decide ((cT ci r2.toNat).1 = oS o))))
    | .ldc i => hasK koT o i r2
    | .ldc_w i => hasK koT o i r2
    | .ldc2_w i => hasK klT o i r2
    | .new i => hasN nwT o i r1
    | .newarray t => decide (t = .int) || decide (t = .boolean)
    | .anewarray i => hasI anT o i
    | .invokestatic i => if r2 = 0 then okRoom m r1 && hasM mlT o i r1 101 else (if r2 = 1 then hasI miT o i else hasI mxT o i) && decide (1 ≤ mFr m) && decide (21 ≤ mLo m)
    | .invokespecial i => if r2 = 1 then hasI obT o i && decide (1 ≤ mFr m) && decide (12 ≤ mLo m) else okRoom m r1 && hasM mlT o i r1 100
    | .invokevirtual i => okRoom m r1 && hasM mlT o i r1 r2.toNat && decide (0 ≤ r2)
    | .lookupswitch dflt ps => (ps.toList.zip (ps.toList.drop 1)).all (fun (a, next) => decide (a.1 < next.1))
    | _ => true
def insLen (i : Instr) (len : Nat) : Nat := match i with
  | .iload _ => 2
  | .aload _ => 2
  | .lload _ => 2
  | .istore _ => 2
  | .lstore _ => 2
  | .bipush _ => 2
  | .ldc _ => 2
  | .newarray _ => 2
  | .sipush _ => 3
  | .ldc_w _ => 3
  | .ldc2_w _ => 3
  | .iinc _ _ => 3
  | .goto _ => 3
  | .ifCond _ _ => 3
  | .if_icmp _ _ => 3
  | .getfield _ => 3
  | .putfield _ => 3
  | .new _ => 3
  | .anewarray _ => 3
  | .invokestatic _ => 3
  | .invokespecial _ => 3
  | .invokevirtual _ => 3
  | .tableswitch _ _ _ _ => len
  | .lookupswitch _ _ => len
  | _ => 1
def isNu (i : Instr) : Bool := match i with
  | .aconst_null => true
  | _ => false
def okE (m o : Nat) (b : ByteArray) (pc : Nat) (e : Ent) : Bool := isNu e.1 || (decide (decode b pc = .ok (e.1, e.2.1)) && decide (e.2.1 = insLen e.1 e.2.1) && okX m o e)
def okEs (m o : Nat) (b : ByteArray) : Nat → List Ent → Bool
  | _, [] => true
  | pc, e :: l => okE m o b pc e && okEs m o b (pc + 1) l
def okM (m : Nat) : Bool := okEs m (mO m) (mB m) 0 (mE m)
theorem ok0 : okM 0 = true := by decide +kernel
theorem ok1 : okM 1 = true := by decide +kernel
theorem ok2 : okM 2 = true := by decide +kernel
theorem ok3 : okM 3 = true := by decide +kernel
theorem ok4 : okM 4 = true := by decide +kernel
theorem ok5 : okM 5 = true := by decide +kernel
theorem ok6 : okM 6 = true := by decide +kernel
theorem ok7 : okM 7 = true := by decide +kernel
theorem ok8 : okM 8 = true := by decide +kernel
theorem ok9 : okM 9 = true := by decide +kernel
theorem ok10 : okM 10 = true := by decide +kernel
theorem ok11 : okM 11 = true := by decide +kernel
theorem ok12 : okM 12 = true := by decide +kernel
theorem ok13 : okM 13 = true := by decide +kernel
theorem ok14 : okM 14 = true := by decide +kernel
theorem ok15 : okM 15 = true := by decide +kernel
theorem ok16 : okM 16 = true := by decide +kernel
theorem ok17 : okM 17 = true := by decide +kernel
theorem ok18 : okM 18 = true := by decide +kernel
theorem ok19 : okM 19 = true := by decide +kernel
theorem ok20 : okM 20 = true := by decide +kernel
theorem ok21 : okM 21 = true := by decide +kernel
theorem ok22 : okM 22 = true := by decide +kernel
theorem ok23 : okM 23 = true := by decide +kernel
theorem ok24 : okM 24 = true := by decide +kernel
theorem ok25 : okM 25 = true := by decide +kernel
theorem ok26 : okM 26 = true := by decide +kernel
theorem ok27 : okM 27 = true := by decide +kernel
theorem ok28 : okM 28 = true := by decide +kernel
theorem ok29 : okM 29 = true := by decide +kernel
theorem ok30 : okM 30 = true := by decide +kernel
theorem ok31 : okM 31 = true := by decide +kernel
theorem ok32 : okM 32 = true := by decide +kernel
theorem ok33 : okM 33 = true := by decide +kernel
theorem ok34 : okM 34 = true := by decide +kernel
theorem ok35 : okM 35 = true := by decide +kernel
theorem ok36 : okM 36 = true := by decide +kernel
theorem ok37 : okM 37 = true := by decide +kernel
theorem ok38 : okM 38 = true := by decide +kernel
theorem ok39 : okM 39 = true := by decide +kernel
theorem ok40 : okM 40 = true := by decide +kernel
theorem ok41 : okM 41 = true := by decide +kernel
theorem ok42 : okM 42 = true := by decide +kernel
theorem ok43 : okM 43 = true := by decide +kernel
theorem ok44 : okM 44 = true := by decide +kernel
theorem ok45 : okM 45 = true := by decide +kernel
theorem ok46 : okM 46 = true := by decide +kernel
theorem ok47 : okM 47 = true := by decide +kernel
theorem ok48 : okM 48 = true := by decide +kernel
theorem ok49 : okM 49 = true := by decide +kernel
theorem ok50 : okM 50 = true := by decide +kernel
theorem ok51 : okM 51 = true := by decide +kernel
theorem ok52 : okM 52 = true := by decide +kernel
theorem ok53 : okM 53 = true := by decide +kernel
theorem ok54 : okM 54 = true := by decide +kernel
theorem ok55 : okM 55 = true := by decide +kernel
theorem ok56 : okM 56 = true := by decide +kernel
theorem ok57 : okM 57 = true := by decide +kernel
theorem ok58 : okM 58 = true := by decide +kernel
theorem ok59 : okM 59 = true := by decide +kernel
theorem ok60 : okM 60 = true := by decide +kernel
theorem ok61 : okM 61 = true := by decide +kernel
theorem ok62 : okM 62 = true := by decide +kernel
theorem ok63 : okM 63 = true := by decide +kernel
theorem ok64 : okM 64 = true := by decide +kernel
theorem ok65 : okM 65 = true := by decide +kernel
theorem ok66 : okM 66 = true := by decide +kernel
theorem ok67 : okM 67 = true := by decide +kernel
theorem ok68 : okM 68 = true := by decide +kernel
theorem ok69 : okM 69 = true := by decide +kernel
theorem ok70 : okM 70 = true := by decide +kernel
theorem ok71 : okM 71 = true := by decide +kernel
theorem ok72 : okM 72 = true := by decide +kernel
theorem ok73 : okM 73 = true := by decide +kernel
theorem ok74 : okM 74 = true := by decide +kernel
theorem ok75 : okM 75 = true := by decide +kernel
theorem ok76 : okM 76 = true := by decide +kernel
theorem ok77 : okM 77 = true := by decide +kernel
theorem ok78 : okM 78 = true := by decide +kernel
theorem ok79 : okM 79 = true := by decide +kernel
theorem ok80 : okM 80 = true := by decide +kernel
theorem ok81 : okM 81 = true := by decide +kernel
theorem ok82 : okM 82 = true := by decide +kernel
theorem ok83 : okM 83 = true := by decide +kernel
theorem ok84 : okM 84 = true := by decide +kernel
theorem ok85 : okM 85 = true := by decide +kernel
theorem ok86 : okM 86 = true := by decide +kernel
theorem ok87 : okM 87 = true := by decide +kernel
theorem ok88 : okM 88 = true := by decide +kernel
theorem ok89 : okM 89 = true := by decide +kernel
theorem ok90 : okM 90 = true := by decide +kernel
theorem ok91 : okM 91 = true := by decide +kernel
theorem ok92 : okM 92 = true := by decide +kernel
theorem ok93 : okM 93 = true := by decide +kernel
theorem ok94 : okM 94 = true := by decide +kernel
theorem ok95 : okM 95 = true := by decide +kernel
theorem ok96 : okM 96 = true := by decide +kernel
theorem ok97 : okM 97 = true := by decide +kernel
theorem ok98 : okM 98 = true := by decide +kernel
theorem ok99 : okM 99 = true := by decide +kernel
theorem ok100 : okM 100 = true := by decide +kernel
theorem ok101 : okM 101 = true := by decide +kernel
theorem ok102 : okM 102 = true := by decide +kernel
theorem ok103 : okM 103 = true := by decide +kernel
theorem ok104 : okM 104 = true := by decide +kernel
theorem ok105 : okM 105 = true := by decide +kernel
theorem ok106 : okM 106 = true := by decide +kernel
theorem ok107 : okM 107 = true := by decide +kernel
theorem ok108 : okM 108 = true := by decide +kernel
theorem ok109 : okM 109 = true := by decide +kernel
theorem ok110 : okM 110 = true := by decide +kernel
theorem ok111 : okM 111 = true := by decide +kernel
theorem ok112 : okM 112 = true := by decide +kernel
theorem ok113 : okM 113 = true := by decide +kernel
theorem ok114 : okM 114 = true := by decide +kernel
theorem ok115 : okM 115 = true := by decide +kernel
theorem ok116 : okM 116 = true := by decide +kernel
theorem ok117 : okM 117 = true := by decide +kernel
theorem ok118 : okM 118 = true := by decide +kernel
theorem ok119 : okM 119 = true := by decide +kernel
theorem ok120 : okM 120 = true := by decide +kernel
theorem ok121 : okM 121 = true := by decide +kernel
theorem ok122 : okM 122 = true := by decide +kernel
theorem ok123 : okM 123 = true := by decide +kernel
theorem ok124 : okM 124 = true := by decide +kernel
theorem ok125 : okM 125 = true := by decide +kernel
theorem ok126 : okM 126 = true := by decide +kernel
theorem ok127 : okM 127 = true := by decide +kernel
theorem ok128 : okM 128 = true := by decide +kernel
theorem ok129 : okM 129 = true := by decide +kernel
theorem ok130 : okM 130 = true := by decide +kernel
theorem ok131 : okM 131 = true := by decide +kernel
theorem ok132 : okM 132 = true := by decide +kernel
theorem ok133 : okM 133 = true := by decide +kernel
theorem ok134 : okM 134 = true := by decide +kernel
theorem ok135 : okM 135 = true := by decide +kernel
theorem ok136 : okM 136 = true := by decide +kernel
theorem ok137 : okM 137 = true := by decide +kernel
theorem ok138 : okM 138 = true := by decide +kernel
theorem ok139 : okM 139 = true := by decide +kernel
theorem ok140 : okM 140 = true := by decide +kernel
theorem ok141 : okM 141 = true := by decide +kernel
theorem ok142 : okM 142 = true := by decide +kernel
theorem ok143 : okM 143 = true := by decide +kernel
theorem ok144 : okM 144 = true := by decide +kernel
theorem ok145 : okM 145 = true := by decide +kernel
theorem ok146 : okM 146 = true := by decide +kernel
theorem ok147 : okM 147 = true := by decide +kernel
theorem ok148 : okM 148 = true := by decide +kernel
theorem ok149 : okM 149 = true := by decide +kernel
theorem ok150 : okM 150 = true := by decide +kernel
theorem ok151 : okM 151 = true := by decide +kernel
theorem ok152 : okM 152 = true := by decide +kernel
theorem ok153 : okM 153 = true := by decide +kernel
theorem ok154 : okM 154 = true := by decide +kernel
theorem ok155 : okM 155 = true := by decide +kernel
theorem ok156 : okM 156 = true := by decide +kernel
theorem ok157 : okM 157 = true := by decide +kernel
theorem ok158 : okM 158 = true := by decide +kernel
theorem ok159 : okM 159 = true := by decide +kernel
theorem ok160 : okM 160 = true := by decide +kernel
theorem ok161 : okM 161 = true := by decide +kernel
theorem ok162 : okM 162 = true := by decide +kernel
theorem ok163 : okM 163 = true := by decide +kernel
theorem ok164 : okM 164 = true := by decide +kernel
theorem ok165 : okM 165 = true := by decide +kernel
theorem ok166 : okM 166 = true := by decide +kernel
theorem ok167 : okM 167 = true := by decide +kernel
theorem ok168 : okM 168 = true := by decide +kernel
theorem ok169 : okM 169 = true := by decide +kernel
theorem ok170 : okM 170 = true := by decide +kernel
theorem ok171 : okM 171 = true := by decide +kernel
theorem ok172 : okM 172 = true := by decide +kernel
theorem ok173 : okM 173 = true := by decide +kernel
theorem ok174 : okM 174 = true := by decide +kernel
theorem ok175 : okM 175 = true := by decide +kernel
theorem ok176 : okM 176 = true := by decide +kernel
theorem ok177 : okM 177 = true := by decide +kernel
theorem ok178 : okM 178 = true := by decide +kernel
theorem ok179 : okM 179 = true := by decide +kernel
theorem ok180 : okM 180 = true := by decide +kernel
theorem ok181 : okM 181 = true := by decide +kernel
theorem ok182 : okM 182 = true := by decide +kernel
theorem ok183 : okM 183 = true := by decide +kernel
theorem ok184 : okM 184 = true := by decide +kernel
theorem ok185 : okM 185 = true := by decide +kernel
theorem ok186 : okM 186 = true := by decide +kernel
theorem ok187 : okM 187 = true := by decide +kernel
theorem ok188 : okM 188 = true := by decide +kernel
theorem ok189 : okM 189 = true := by decide +kernel
theorem ok190 : okM 190 = true := by decide +kernel
theorem ok191 : okM 191 = true := by decide +kernel
theorem ok192 : okM 192 = true := by decide +kernel
theorem ok193 : okM 193 = true := by decide +kernel
theorem ok194 : okM 194 = true := by decide +kernel
theorem ok195 : okM 195 = true := by decide +kernel
theorem ok196 : okM 196 = true := by decide +kernel
theorem ok197 : okM 197 = true := by decide +kernel
theorem ok198 : okM 198 = true := by decide +kernel
theorem ok199 : okM 199 = true := by decide +kernel
theorem ok200 : okM 200 = true := by decide +kernel
theorem ok201 : okM 201 = true := by decide +kernel
theorem ok202 : okM 202 = true := by decide +kernel
theorem ok203 : okM 203 = true := by decide +kernel
theorem ok204 : okM 204 = true := by decide +kernel
theorem ok205 : okM 205 = true := by decide +kernel
theorem ok206 : okM 206 = true := by decide +kernel
theorem ok207 : okM 207 = true := by decide +kernel
theorem ok208 : okM 208 = true := by decide +kernel
theorem ok209 : okM 209 = true := by decide +kernel
theorem ok210 : okM 210 = true := by decide +kernel
theorem ok211 : okM 211 = true := by decide +kernel
theorem ok212 : okM 212 = true := by decide +kernel
theorem ok213 : okM 213 = true := by decide +kernel
theorem ok214 : okM 214 = true := by decide +kernel
theorem ok215 : okM 215 = true := by decide +kernel
theorem ok216 : okM 216 = true := by decide +kernel
theorem ok217 : okM 217 = true := by decide +kernel
theorem ok218 : okM 218 = true := by decide +kernel
theorem ok219 : okM 219 = true := by decide +kernel
theorem ok220 : okM 220 = true := by decide +kernel
theorem ok221 : okM 221 = true := by decide +kernel
theorem ok222 : okM 222 = true := by decide +kernel
theorem ok223 : okM 223 = true := by decide +kernel
theorem ok224 : okM 224 = true := by decide +kernel
end
section
theorem okEs_cut {m o : Nat} {bs : ByteArray} : ∀ (n k : Nat) (l : List Ent), okEs m o bs k (l.take n) = true → okEs m o bs (k + n) (l.drop n) = true → okEs m o bs k l = true
  | 0, k, l, _, h => by simpa using h
  | n + 1, k, [], _, _ => rfl
  | n + 1, k, e :: l, h, g => by
    rw [List.take_succ_cons, okEs, Bool.and_eq_true] at h
    rw [List.drop_succ_cons] at g
    rw [okEs, Bool.and_eq_true]
    exact ⟨h.1, okEs_cut n (k + 1) l h.2 (by rw [show k + 1 + n = k + (n + 1) by omega]; exact g)⟩
theorem okL_0 : okEs 225 (mO 225) (mB 225) 0 ((mE 225 |>.drop 0).take 60) = true := by decide +kernel
theorem okL_60 : okEs 225 (mO 225) (mB 225) 60 ((mE 225 |>.drop 60).take 60) = true := by decide +kernel
theorem okL_120 : okEs 225 (mO 225) (mB 225) 120 ((mE 225 |>.drop 120).take 60) = true := by decide +kernel
theorem okL_180 : okEs 225 (mO 225) (mB 225) 180 ((mE 225 |>.drop 180).take 60) = true := by decide +kernel
theorem okL_240 : okEs 225 (mO 225) (mB 225) 240 ((mE 225 |>.drop 240).take 60) = true := by decide +kernel
theorem okL_300 : okEs 225 (mO 225) (mB 225) 300 ((mE 225 |>.drop 300).take 60) = true := by decide +kernel
theorem okL_360 : okEs 225 (mO 225) (mB 225) 360 ((mE 225 |>.drop 360).take 60) = true := by decide +kernel
theorem okL_420 : okEs 225 (mO 225) (mB 225) 420 ((mE 225 |>.drop 420).take 60) = true := by decide +kernel
theorem okL_480 : okEs 225 (mO 225) (mB 225) 480 ((mE 225 |>.drop 480).take 60) = true := by decide +kernel
theorem okL_540 : okEs 225 (mO 225) (mB 225) 540 ((mE 225 |>.drop 540).take 60) = true := by decide +kernel
theorem okL_600 : okEs 225 (mO 225) (mB 225) 600 ((mE 225 |>.drop 600).take 60) = true := by decide +kernel
theorem okL_660 : okEs 225 (mO 225) (mB 225) 660 ((mE 225 |>.drop 660).take 60) = true := by decide +kernel
theorem okL_720 : okEs 225 (mO 225) (mB 225) 720 ((mE 225 |>.drop 720).take 60) = true := by decide +kernel
theorem okL_780 : okEs 225 (mO 225) (mB 225) 780 ((mE 225 |>.drop 780).take 60) = true := by decide +kernel
theorem okL_840 : okEs 225 (mO 225) (mB 225) 840 ((mE 225 |>.drop 840).take 60) = true := by decide +kernel
theorem okL_900 : okEs 225 (mO 225) (mB 225) 900 ((mE 225 |>.drop 900).take 60) = true := by decide +kernel
theorem okL_960 : okEs 225 (mO 225) (mB 225) 960 ((mE 225 |>.drop 960).take 60) = true := by decide +kernel
theorem okL_1020 : okEs 225 (mO 225) (mB 225) 1020 ((mE 225 |>.drop 1020).take 60) = true := by decide +kernel
theorem okL_1080 : okEs 225 (mO 225) (mB 225) 1080 ((mE 225 |>.drop 1080).take 60) = true := by decide +kernel
theorem okL_1140 : okEs 225 (mO 225) (mB 225) 1140 ((mE 225 |>.drop 1140).take 60) = true := by decide +kernel
theorem okL_1200 : okEs 225 (mO 225) (mB 225) 1200 ((mE 225 |>.drop 1200).take 60) = true := by decide +kernel
theorem okL_1260 : okEs 225 (mO 225) (mB 225) 1260 ((mE 225 |>.drop 1260).take 60) = true := by decide +kernel
theorem okL_1320 : okEs 225 (mO 225) (mB 225) 1320 ((mE 225 |>.drop 1320).take 60) = true := by decide +kernel
theorem okL_1380 : okEs 225 (mO 225) (mB 225) 1380 ((mE 225 |>.drop 1380).take 60) = true := by decide +kernel
theorem okL_1440 : okEs 225 (mO 225) (mB 225) 1440 ((mE 225 |>.drop 1440).take 60) = true := by decide +kernel
theorem okL_1500 : okEs 225 (mO 225) (mB 225) 1500 ((mE 225 |>.drop 1500).take 60) = true := by decide +kernel
theorem okL_end : okEs 225 (mO 225) (mB 225) 1560 (mE 225 |>.drop 1560) = true := by decide +kernel
theorem okR_1500 : okEs 225 (mO 225) (mB 225) 1500 (mE 225 |>.drop 1500) = true := okEs_cut 60 1500 _ okL_1500 (by rw [List.drop_drop]; exact okL_end)
theorem okR_1440 : okEs 225 (mO 225) (mB 225) 1440 (mE 225 |>.drop 1440) = true := okEs_cut 60 1440 _ okL_1440 (by rw [List.drop_drop]; exact okR_1500)
theorem okR_1380 : okEs 225 (mO 225) (mB 225) 1380 (mE 225 |>.drop 1380) = true := okEs_cut 60 1380 _ okL_1380 (by rw [List.drop_drop]; exact okR_1440)
theorem okR_1320 : okEs 225 (mO 225) (mB 225) 1320 (mE 225 |>.drop 1320) = true := okEs_cut 60 1320 _ okL_1320 (by rw [List.drop_drop]; exact okR_1380)
theorem okR_1260 : okEs 225 (mO 225) (mB 225) 1260 (mE 225 |>.drop 1260) = true := okEs_cut 60 1260 _ okL_1260 (by rw [List.drop_drop]; exact okR_1320)
theorem okR_1200 : okEs 225 (mO 225) (mB 225) 1200 (mE 225 |>.drop 1200) = true := okEs_cut 60 1200 _ okL_1200 (by rw [List.drop_drop]; exact okR_1260)
theorem okR_1140 : okEs 225 (mO 225) (mB 225) 1140 (mE 225 |>.drop 1140) = true := okEs_cut 60 1140 _ okL_1140 (by rw [List.drop_drop]; exact okR_1200)
theorem okR_1080 : okEs 225 (mO 225) (mB 225) 1080 (mE 225 |>.drop 1080) = true := okEs_cut 60 1080 _ okL_1080 (by rw [List.drop_drop]; exact okR_1140)
theorem okR_1020 : okEs 225 (mO 225) (mB 225) 1020 (mE 225 |>.drop 1020) = true := okEs_cut 60 1020 _ okL_1020 (by rw [List.drop_drop]; exact okR_1080)
theorem okR_960 : okEs 225 (mO 225) (mB 225) 960 (mE 225 |>.drop 960) = true := okEs_cut 60 960 _ okL_960 (by rw [List.drop_drop]; exact okR_1020)
theorem okR_900 : okEs 225 (mO 225) (mB 225) 900 (mE 225 |>.drop 900) = true := okEs_cut 60 900 _ okL_900 (by rw [List.drop_drop]; exact okR_960)
theorem okR_840 : okEs 225 (mO 225) (mB 225) 840 (mE 225 |>.drop 840) = true := okEs_cut 60 840 _ okL_840 (by rw [List.drop_drop]; exact okR_900)
theorem okR_780 : okEs 225 (mO 225) (mB 225) 780 (mE 225 |>.drop 780) = true := okEs_cut 60 780 _ okL_780 (by rw [List.drop_drop]; exact okR_840)
theorem okR_720 : okEs 225 (mO 225) (mB 225) 720 (mE 225 |>.drop 720) = true := okEs_cut 60 720 _ okL_720 (by rw [List.drop_drop]; exact okR_780)
theorem okR_660 : okEs 225 (mO 225) (mB 225) 660 (mE 225 |>.drop 660) = true := okEs_cut 60 660 _ okL_660 (by rw [List.drop_drop]; exact okR_720)
theorem okR_600 : okEs 225 (mO 225) (mB 225) 600 (mE 225 |>.drop 600) = true := okEs_cut 60 600 _ okL_600 (by rw [List.drop_drop]; exact okR_660)
theorem okR_540 : okEs 225 (mO 225) (mB 225) 540 (mE 225 |>.drop 540) = true := okEs_cut 60 540 _ okL_540 (by rw [List.drop_drop]; exact okR_600)
theorem okR_480 : okEs 225 (mO 225) (mB 225) 480 (mE 225 |>.drop 480) = true := okEs_cut 60 480 _ okL_480 (by rw [List.drop_drop]; exact okR_540)
theorem okR_420 : okEs 225 (mO 225) (mB 225) 420 (mE 225 |>.drop 420) = true := okEs_cut 60 420 _ okL_420 (by rw [List.drop_drop]; exact okR_480)
theorem okR_360 : okEs 225 (mO 225) (mB 225) 360 (mE 225 |>.drop 360) = true := okEs_cut 60 360 _ okL_360 (by rw [List.drop_drop]; exact okR_420)
theorem okR_300 : okEs 225 (mO 225) (mB 225) 300 (mE 225 |>.drop 300) = true := okEs_cut 60 300 _ okL_300 (by rw [List.drop_drop]; exact okR_360)
theorem okR_240 : okEs 225 (mO 225) (mB 225) 240 (mE 225 |>.drop 240) = true := okEs_cut 60 240 _ okL_240 (by rw [List.drop_drop]; exact okR_300)
theorem okR_180 : okEs 225 (mO 225) (mB 225) 180 (mE 225 |>.drop 180) = true := okEs_cut 60 180 _ okL_180 (by rw [List.drop_drop]; exact okR_240)
theorem okR_120 : okEs 225 (mO 225) (mB 225) 120 (mE 225 |>.drop 120) = true := okEs_cut 60 120 _ okL_120 (by rw [List.drop_drop]; exact okR_180)
theorem okR_60 : okEs 225 (mO 225) (mB 225) 60 (mE 225 |>.drop 60) = true := okEs_cut 60 60 _ okL_60 (by rw [List.drop_drop]; exact okR_120)
theorem okR_0 : okEs 225 (mO 225) (mB 225) 0 (mE 225 |>.drop 0) = true := okEs_cut 60 0 _ okL_0 (by rw [List.drop_drop]; exact okR_60)
theorem ok225 : okM 225 = true := okR_0
theorem okAll (m : Nat) (h : m < 226) : okM m = true :=
  match m, h with
  | 0, _ => ok0
  | 1, _ => ok1
  | 2, _ => ok2
  | 3, _ => ok3
  | 4, _ => ok4
  | 5, _ => ok5
  | 6, _ => ok6
  | 7, _ => ok7
  | 8, _ => ok8
  | 9, _ => ok9
  | 10, _ => ok10
  | 11, _ => ok11
  | 12, _ => ok12
  | 13, _ => ok13
  | 14, _ => ok14
  | 15, _ => ok15
  | 16, _ => ok16
  | 17, _ => ok17
  | 18, _ => ok18
  | 19, _ => ok19
  | 20, _ => ok20
  | 21, _ => ok21
  | 22, _ => ok22
  | 23, _ => ok23
  | 24, _ => ok24
  | 25, _ => ok25
  | 26, _ => ok26
  | 27, _ => ok27
  | 28, _ => ok28
  | 29, _ => ok29
  | 30, _ => ok30
  | 31, _ => ok31
  | 32, _ => ok32
  | 33, _ => ok33
  | 34, _ => ok34
  | 35, _ => ok35
  | 36, _ => ok36
  | 37, _ => ok37
  | 38, _ => ok38
  | 39, _ => ok39
  | 40, _ => ok40
  | 41, _ => ok41
  | 42, _ => ok42
  | 43, _ => ok43
  | 44, _ => ok44
  | 45, _ => ok45
  | 46, _ => ok46
  | 47, _ => ok47
  | 48, _ => ok48
  | 49, _ => ok49
  | 50, _ => ok50
  | 51, _ => ok51
  | 52, _ => ok52
  | 53, _ => ok53
  | 54, _ => ok54
  | 55, _ => ok55
  | 56, _ => ok56
  | 57, _ => ok57
  | 58, _ => ok58
  | 59, _ => ok59
  | 60, _ => ok60
  | 61, _ => ok61
  | 62, _ => ok62
  | 63, _ => ok63
  | 64, _ => ok64
  | 65, _ => ok65
  | 66, _ => ok66
  | 67, _ => ok67
  | 68, _ => ok68
  | 69, _ => ok69
  | 70, _ => ok70
  | 71, _ => ok71
  | 72, _ => ok72
  | 73, _ => ok73
  | 74, _ => ok74
  | 75, _ => ok75
  | 76, _ => ok76
  | 77, _ => ok77
  | 78, _ => ok78
  | 79, _ => ok79
  | 80, _ => ok80
  | 81, _ => ok81
  | 82, _ => ok82
  | 83, _ => ok83
  | 84, _ => ok84
  | 85, _ => ok85
  | 86, _ => ok86
  | 87, _ => ok87
  | 88, _ => ok88
  | 89, _ => ok89
  | 90, _ => ok90
  | 91, _ => ok91
  | 92, _ => ok92
  | 93, _ => ok93
  | 94, _ => ok94
  | 95, _ => ok95
  | 96, _ => ok96
  | 97, _ => ok97
  | 98, _ => ok98
  | 99, _ => ok99
  | 100, _ => ok100
  | 101, _ => ok101
  | 102, _ => ok102
  | 103, _ => ok103
  | 104, _ => ok104
  | 105, _ => ok105
  | 106, _ => ok106
  | 107, _ => ok107
  | 108, _ => ok108
  | 109, _ => ok109
  | 110, _ => ok110
  | 111, _ => ok111
  | 112, _ => ok112
  | 113, _ => ok113
  | 114, _ => ok114
  | 115, _ => ok115
  | 116, _ => ok116
  | 117, _ => ok117
  | 118, _ => ok118
  | 119, _ => ok119
  | 120, _ => ok120
  | 121, _ => ok121
  | 122, _ => ok122
  | 123, _ => ok123
  | 124, _ => ok124
  | 125, _ => ok125
  | 126, _ => ok126
  | 127, _ => ok127
  | 128, _ => ok128
  | 129, _ => ok129
  | 130, _ => ok130
  | 131, _ => ok131
  | 132, _ => ok132
  | 133, _ => ok133
  | 134, _ => ok134
  | 135, _ => ok135
  | 136, _ => ok136
  | 137, _ => ok137
  | 138, _ => ok138
  | 139, _ => ok139
  | 140, _ => ok140
  | 141, _ => ok141
  | 142, _ => ok142
  | 143, _ => ok143
  | 144, _ => ok144
  | 145, _ => ok145
  | 146, _ => ok146
  | 147, _ => ok147
  | 148, _ => ok148
  | 149, _ => ok149
  | 150, _ => ok150
  | 151, _ => ok151
  | 152, _ => ok152
  | 153, _ => ok153
  | 154, _ => ok154
  | 155, _ => ok155
  | 156, _ => ok156
  | 157, _ => ok157
  | 158, _ => ok158
  | 159, _ => ok159
  | 160, _ => ok160
  | 161, _ => ok161
  | 162, _ => ok162
  | 163, _ => ok163
  | 164, _ => ok164
  | 165, _ => ok165
  | 166, _ => ok166
  | 167, _ => ok167
  | 168, _ => ok168
  | 169, _ => ok169
  | 170, _ => ok170
  | 171, _ => ok171
  | 172, _ => ok172
  | 173, _ => ok173
  | 174, _ => ok174
  | 175, _ => ok175
  | 176, _ => ok176
  | 177, _ => ok177
  | 178, _ => ok178
  | 179, _ => ok179
  | 180, _ => ok180
  | 181, _ => ok181
  | 182, _ => ok182
  | 183, _ => ok183
  | 184, _ => ok184
  | 185, _ => ok185
  | 186, _ => ok186
  | 187, _ => ok187
  | 188, _ => ok188
  | 189, _ => ok189
  | 190, _ => ok190
  | 191, _ => ok191
  | 192, _ => ok192
  | 193, _ => ok193
  | 194, _ => ok194
  | 195, _ => ok195
  | 196, _ => ok196
  | 197, _ => ok197
  | 198, _ => ok198
  | 199, _ => ok199
  | 200, _ => ok200
  | 201, _ => ok201
  | 202, _ => ok202
  | 203, _ => ok203
  | 204, _ => ok204
  | 205, _ => ok205
  | 206, _ => ok206
  | 207, _ => ok207
  | 208, _ => ok208
  | 209, _ => ok209
  | 210, _ => ok210
  | 211, _ => ok211
  | 212, _ => ok212
  | 213, _ => ok213
  | 214, _ => ok214
  | 215, _ => ok215
  | 216, _ => ok216
  | 217, _ => ok217
  | 218, _ => ok218
  | 219, _ => ok219
  | 220, _ => ok220
  | 221, _ => ok221
  | 222, _ => ok222
  | 223, _ => ok223
  | 224, _ => ok224
  | 225, _ => ok225
  | (_ + 226), h => absurd h (by omega)
end
section
/-! THE INSTRUCTIONS THAT READ OR CHANGE CELLS. -/
def szL (q : Nat × Nat) : Nat := if q.1 = 1 then cN q.2 else q.2
def SL : Nat → Nat
  | 0 => 0
  | n + 1 => SL n + szL (lay n)
theorem SL_mono {a b : Nat} (h : a ≤ b) : SL a ≤ SL b := by
  induction b with
  | zero => have : a = 0 := by omega
            subst this; exact Nat.le_refl _
  | succ n ih =>
    by_cases ha : a = n + 1
    · subst ha; exact Nat.le_refl _
    · exact Nat.le_trans (ih (by omega)) (Nat.le_add_right _ _)
def gW (p : Program) (l : Launch) (e : Env) (R : Room) (s : State) (mi : MethodId) (args : Array Value) (below : List Frame) (meth : Method) (c : Code) (Q : State → Prop) (n0 : Nat) : Heap → List Loc → Sto → JFrame → Prop :=
  fun H locs sto g => W p l e R s mi args below meth c H locs (sto.1 - n0) (SL sto.1 - SL n0) Q g
/-- the world at a point of a method's run -/
def WX (dC : Nat → ClassId) (dI : Nat → Nat → Nat) (b L0 : Nat) (xs0 : Nat → Int32) (s : State) (A : Nat → Prop) (w0 : va_W) (n0 : Nat) (H : Heap) (locs : List Loc) (ws : va_W) (tys : List (ClassId × FieldType)) (sto : Sto) : Prop :=
  va_K (dC, dI) classes tys s ∧ va_P (dC, dI) classes ws H ∧ va_D A ws ∧ va_S A s.heap H locs ∧ wre ws tys b L0 xs0 sto ∧ ext w0 ws ∧ n0 ≤ sto.1
theorem cl_at (ci : Nat) (h : ci < 6) : classes[ci]? = some (cC ci, cT ci, cN ci) := by
  match ci, h with
  | 0, _ => rfl
  | 1, _ => rfl
  | 2, _ => rfl
  | 3, _ => rfl
  | 4, _ => rfl
  | 5, _ => rfl
  | _ + 6, h => exact absurd h (by omega)
theorem cty_ok (ci : Nat) (h : ci < 6) : ∀ k, k < cN ci → parseFieldDescriptor (cT ci k).2.2.1 = some (cTy ci k) := by
  match ci, h with
  | 0, _ => exact tyX6_ok
  | 1, _ => exact tyX5_ok
  | 2, _ => exact tyX0_ok
  | 3, _ => exact tyX2_ok
  | 4, _ => exact tyX4_ok
  | 5, _ => exact tyX7_ok
  | _ + 6, h => exact absurd h (by omega)
theorem cnm_ok (ci : Nat) (h : ci < 6) : ∀ a, a < cN ci → ∀ b, b < cN ci → a ≠ b → (cT ci a).2.1 ≠ (cT ci b).2.1 := by
  match ci, h with
  | 0, _ => exact nmX6
  | 1, _ => exact nmX5
  | 2, _ => exact nmX0
  | 3, _ => exact nmX2
  | 4, _ => exact nmX4
  | 5, _ => exact nmX7
  | _ + 6, h => exact absurd h (by omega)
def refTy : FieldType → Bool
  | .object _ => true
  | .array _ => true
  | _ => false
def okSl (ci k : Nat) : Bool := (slotTag ci k == 1 && decide (cTy ci k = .int)) || (slotTag ci k == 4 && decide (cTy ci k = .boolean)) || (slotTag ci k == 3 && refTy (cTy ci k))
theorem okSl_all : (List.range 6).all (fun ci => (List.range (cN ci)).all (fun k => okSl ci k)) = true := by decide +kernel
theorem okSl_at {ci k : Nat} (h : ci < 6) (hk : k < cN ci) : (slotTag ci k = 1 ∧ cTy ci k = .int) ∨ (slotTag ci k = 4 ∧ cTy ci k = .boolean) ∨ (slotTag ci k = 3 ∧ refTy (cTy ci k) = true) := by
  have h1 := List.all_eq_true.mp (List.all_eq_true.mp okSl_all ci (List.mem_range.mpr h)) k (List.mem_range.mpr hk)
  unfold okSl at h1
  simp only [Bool.or_eq_true, Bool.and_eq_true, beq_iff_eq, decide_eq_true_eq] at h1
  rcases h1 with (h1 | h1) | h1
  · exact Or.inl h1
  · exact Or.inr (Or.inl h1)
  · exact Or.inr (Or.inr h1)
theorem luT_ok : (List.range 6).all (fun ci => (List.range (cN ci)).all (fun k => atW ((luT.getD ci []).getD k 0) (u_lay (cC ci) (cT ci) k))) = true := by decide +kernel
theorem uws_in (ci : Nat) (h : ci < 6) : ∀ w ∈ u_ws (cC ci) (cT ci) (cN ci), w ∈ gw_tbl := by
  intro w hw
  obtain ⟨k, hk, rfl⟩ := List.mem_map.mp hw
  exact atW.mem (List.all_eq_true.mp (List.all_eq_true.mp luT_ok ci (List.mem_range.mpr h)) k hk)
theorem fl_word {o i ci k : Nat} (h : has3 flT o i ci k = true) : k < cN ci ∧ ∃ ref : String, Cond.fieldLink (oS o) i ref (cT ci k).2.1 (cT ci k).2.2.1 ∈ gw_tbl ∧ (ref = (cT ci k).1 ∨ Cond.sameField ref (cT ci k).1 (cT ci k).2.1 (cT ci k).2.2.1 ∈ gw_tbl) := by
  unfold has3 at h
  obtain ⟨q, hq, hc⟩ := List.any_eq_true.mp h
  have hok := flT_ok q hq
  obtain ⟨o', i', ci', k', w1, w2⟩ := q
  simp only [Bool.and_eq_true, beq_iff_eq] at hc
  obtain ⟨⟨⟨rfl, rfl⟩, rfl⟩, rfl⟩ := hc
  simp only [okFl, Bool.and_eq_true, Bool.or_eq_true, decide_eq_true_eq] at hok
  obtain ⟨⟨h1, h2⟩, h3⟩ := hok
  refine ⟨h1, _, atW.mem h2, ?_⟩
  unfold flRef
  by_cases h4 : w2 = 9999
  · rw [if_pos h4]; exact Or.inl rfl
  · rw [if_neg h4]
    rcases h3 with h3 | h3
    · exact absurd h3 h4
    · exact Or.inr (atW.mem h3)
abbrev va_E_inr (ci : Nat) (fs : List Value) : va_E := .inr (ci, fs)
abbrev va_E_inl (a : ClassId × vp_A) : va_E := .inl a
theorem lay_all : LAY.all (fun q => decide (q.2 < 1000)) = true := by decide +kernel
theorem lay_small (a : Nat) : (lay a).2 < 2 ^ 31 := by
  unfold lay
  rw [List.getD_eq_getElem?_getD]
  cases h : LAY[a]? with
  | none => exact Nat.two_pow_pos 31
  | some q =>
    have h1 := List.all_eq_true.mp lay_all q (List.mem_of_getElem? h)
    have h2 : q.2 < 1000 := of_decide_eq_true h1
    show q.2 < _
    omega
theorem not_neg {y : Int32} {x : Int} (hy : y.toInt = x) (h : 0 ≤ x) : ¬ y < 0 := by
  intro h0
  have h1 := Int32.lt_iff_toInt_lt.mp h0
  have h00 : (0 : Int32).toInt = 0 := by decide
  omega
section HEAP
variable {p : Program} {l : Launch} {e : Env} {R : Room} {s : State} {mi : MethodId} {args : Array Value} {below : List Frame} {meth : Method} {c : Code} {Q : State → Prop} {n0 : Nat}
variable {dC : Nat → ClassId} {dI : Nat → Nat → Nat} {b L0 : Nat} {xs0 : Nat → Int32} {A : Nat → Prop} {w0 : va_W} {nL nF : Nat} {pc : Nat} {L st : List Vl} {sto : Sto} {cc : ByteArray}
theorem same_f {o i ci k : Nat} {ref : String} (hts : ∀ w ∈ gw_tbl, w.before args s = true) (h : ref = (cT ci k).1 ∨ Cond.sameField ref (cT ci k).1 (cT ci k).2.1 (cT ci k).2.2.1 ∈ gw_tbl) : ∀ x, s.fieldFound? (cT ci k).1 (cT ci k).2.1 (cT ci k).2.2.1 = some x → s.fieldFound? ref (cT ci k).2.1 (cT ci k).2.2.1 = some x := by
  rcases h with rfl | h
  · exact fun x hx => hx
  · exact u_same (hts _ h)
theorem at_gf {o i r1 k : Nat} (hx : p.tables.exec = Jvm.exec) (hb : c.code = cc) (hts : ∀ w ∈ gw_tbl, w.before args s = true) (hown : s.vm.findClass (oS o) = some mi.cls) (hok : (cis r1).all (fun ci => has3 flT o i ci k) = true) (hdg : decode cc pc = .ok (.getfield i, 3))
    (h : Nx (gW p l e R s mi args below meth c Q n0) (WX dC dI b L0 xs0 s A w0 n0) mi b nL nF sto (gfA r1 k pc L st)) : At (gW p l e R s mi args below meth c Q n0) (WX dC dI b L0 xs0 s A w0 n0) mi b nL pc L st sto := by
  unfold gfA at h
  split at h
  · rename_i a r
    split at h
    · rename_i hc
      obtain ⟨h2, hl1, hci⟩ := hc
      intro H locs ls lv xs ws tys hV hl hL hr hs0
      obtain ⟨x, ys, rfl, hv1, hs1⟩ := rvs_cons hs0
      obtain ⟨q, en, hq, rfl⟩ := rvl_ref hv1 h2
      obtain ⟨hK, hP, hD, hS, hw, hxt, hn⟩ := hV
      have hcr := wre_at hw h2 hq
      rcases hcr with ⟨-, fs, rfl, hc6, hfl, hf⟩ | ⟨z, -⟩ | ⟨z, -⟩ | ⟨z, -⟩
      · have hci' : (lay a.toNat).2 ∈ cis r1 := by simpa using hci
        obtain ⟨hk, ref, hw1, hw2⟩ := fl_word (List.all_eq_true.mp hok _ hci')
        obtain ⟨v, hv2, hv3⟩ := hf k hk
        exact va_get (D := (dC, dI)) (C := cC (lay a.toNat).2) (T := cT (lay a.toNat).2) (N := cN (lay a.toNat).2) hx hb hts (uws_in _ hc6) hown hK hP _ hq (cl_at _ hc6) k hk (hts _ hw1) (same_f (o := o) (i := i) hts hw2) hv2 hdg
          (h H locs ls lv _ ws tys ⟨hK, hP, hD, hS, hw, hxt, hn⟩ hl hL hr ⟨hv3, hs1⟩)
      · rw [hl1] at z; exact absurd z (by decide)
      · rw [hl1] at z; exact absurd z (by decide)
      · rw [hl1] at z; exact absurd z (by decide)
    · exact (show False from h).elim
  · exact (show False from h).elim
theorem cre_put {ws : va_W} {tys : List (ClassId × FieldType)} {row : Nat → Nat → Int} {a ci k : Nat} {q : Nat} {fs : List Value} {t : Nat} {x : Int} {v : Value} (hq : ws[a]? = some (q, .inr (ci, fs))) (hl1 : lay (a + 2) = (1, ci)) (hc6 : ci < 6) (hfl : fs.length = cN ci) (hf : ∀ k, k < cN ci → ∃ x, fs[k]? = some x ∧ rvl ws b ((if slotTag ci k = 3 then 3 else 1), row (a + 2) k) x) (hk : k < cN ci) (ht : t = if slotTag ci k = 3 then 3 else 1) (hv : rvl ws b (t, x) v) :
    cre (ws.set a (q, .inr (ci, fs.set k v))) tys b (upS row (a + 2) k x (a + 2)) (lay (a + 2)) (.inr (ci, fs.set k v)) := by
  rw [hl1]
  refine Or.inl ⟨rfl, _, rfl, hc6, by rw [List.length_set]; exact hfl, fun j hj => ?_⟩
  show ∃ y, (fs.set k v)[j]? = some y ∧ rvl _ b ((if slotTag ci j = 3 then 3 else 1), upS row (a + 2) k x (a + 2) j) y
  by_cases hjk : j = k
  · subst hjk
    refine ⟨v, List.getElem?_set_self (by omega), ?_⟩
    have : upS row (a + 2) j x (a + 2) j = x := by simp [upS]
    rw [this, ← ht]
    exact rvl_ext (ext_set hq) hv
  · obtain ⟨y, h1, h2⟩ := hf j hj
    refine ⟨y, by rw [List.getElem?_set_ne (Ne.symm hjk)]; exact h1, ?_⟩
    have : upS row (a + 2) k x (a + 2) j = row (a + 2) j := by simp [upS, hjk]
    rw [this]
    exact rvl_ext (ext_set hq) h2
theorem nar_ok {ci k t : Nat} {x : Int} {v : Value} {ws : va_W} (h6 : ci < 6) (hk : k < cN ci) (ht : t = if slotTag ci k = 3 then 3 else 1) (hz : slotTag ci k = 4 → x = 0 ∨ x = 1) (h2 : t = 3 → 2 ≤ x) (hv : rvl ws b (t, x) v) : narrow (cTy ci k) v = v ∧ fits (cTy ci k) v = true := by
  rcases okSl_at h6 hk with ⟨e1, e2⟩ | ⟨e1, e2⟩ | ⟨e1, e2⟩
  · rw [e1, if_neg (by decide)] at ht
    subst ht
    obtain ⟨y, rfl, -⟩ := rvl_int hv
    rw [e2]; exact ⟨rfl, rfl⟩
  · rw [e1, if_neg (by decide)] at ht
    subst ht
    obtain ⟨y, rfl, hy⟩ := rvl_int hv
    rw [e2]
    have : y = 0 ∨ y = 1 := by
      rcases hz e1 with h | h
      · exact Or.inl (Int32.toInt_inj.mp (by rw [hy, h]; rfl))
      · exact Or.inr (Int32.toInt_inj.mp (by rw [hy, h]; rfl))
    rcases this with rfl | rfl <;> exact ⟨by decide, by decide⟩
  · rw [e1, if_pos rfl] at ht
    subst ht
    obtain ⟨q, en, -, rfl⟩ := rvl_ref hv (h2 rfl)
    revert e2
    cases cTy ci k <;> intro e2 <;> first | exact ⟨rfl, rfl⟩ | exact absurd e2 (by decide)
theorem at_pf {o i r1 k : Nat} (hx : p.tables.exec = Jvm.exec) (hb : c.code = cc) (hts : ∀ w ∈ gw_tbl, w.before args s = true) (hown : s.vm.findClass (oS o) = some mi.cls) (hok : (cis r1).all (fun ci => has3 flT o i ci k) = true)
    (hfin : ∀ ci ∈ cis r1, (cT ci k).2.2.2 = true → meth.name = "<init>" ∧ (cT ci k).1 = oS o) (hdg : decode cc pc = .ok (.putfield i, 3))
    (h : Nx (gW p l e R s mi args below meth c Q n0) (WX dC dI b L0 xs0 s A w0 n0) mi b nL nF sto (pfA r1 k pc L st)) : At (gW p l e R s mi args below meth c Q n0) (WX dC dI b L0 xs0 s A w0 n0) mi b nL pc L st sto := by
  unfold pfA at h
  split at h
  · rename_i t x a r
    by_cases hc : 2 ≤ a ∧ (lay a.toNat).1 = 1 ∧ (cis r1).contains (lay a.toNat).2 = true ∧ (t = if slotTag (lay a.toNat).2 k = 3 then 3 else 1) ∧ (slotTag (lay a.toNat).2 k = 4 → x = 0 ∨ x = 1) ∧ (t = 3 → 2 ≤ x)
    · rw [if_pos hc] at h
      obtain ⟨h2, hl1, hci, ht, hz, h3⟩ := hc
      intro H locs ls lv xs ws tys hV hl hL hr hs0
      obtain ⟨v, ys, rfl, hv0, hs1⟩ := rvs_cons hs0
      obtain ⟨x', ys, rfl, hv1, hs2⟩ := rvs_cons hs1
      obtain ⟨q, en, hq, rfl⟩ := rvl_ref hv1 h2
      obtain ⟨hK, hP, hD, hS, hw, hxt, hn⟩ := hV
      have hcr := wre_at hw h2 hq
      rcases hcr with ⟨-, fs, rfl, hc6, hfl, hf⟩ | ⟨z, -⟩ | ⟨z, -⟩ | ⟨z, -⟩
      · have hci' : (lay a.toNat).2 ∈ cis r1 := by simpa using hci
        obtain ⟨hk, ref, hw1, hw2⟩ := fl_word (List.all_eq_true.mp hok _ hci')
        obtain ⟨hna, hfi⟩ := nar_ok hc6 hk ht hz h3 hv0
        have hae : a.toNat - 2 + 2 = a.toNat := by omega
        have kk : ∀ (H1 : Heap) (locs1 : List Loc), va_P (dC, dI) classes (ws.set (a.toNat - 2) (q, .inr ((lay a.toNat).2, fs.set k v))) H1 → va_D A (ws.set (a.toNat - 2) (q, .inr ((lay a.toNat).2, fs.set k v))) → va_S A s.heap H1 locs1 → W p l e R s mi args below meth c H1 locs1 (sto.1 - n0) (SL sto.1 - SL n0) Q (F0 mi (pc + 3) ls ys) := by
          intro H1 locs1 hP1 hD1 hS1
          have hcp := cre_put (b := b) (tys := tys) (row := sto.2) (a := a.toNat - 2) (k := k) (t := t) (x := x) (v := v) hq (by rw [hae]; exact Prod.ext hl1 rfl) hc6 hfl (by rw [hae]; exact hf) hk ht hv0
          have hw' := wre_up hw hq hcp
          rw [hae] at hw'
          exact h H1 locs1 ls lv _ _ tys ⟨hK, hP1, hD1, hS1, hw', ext_tr hxt (ext_set hq), hn⟩ hl hL (rls_ext (ext_set hq) hr) (rvs_ext (ext_set hq) hs2)
        by_cases hfn : (cT (lay a.toNat).2 k).2.2.2 = true
        · obtain ⟨hi1, hi2⟩ := hfin _ hci' hfn
          exact va_putF (D := (dC, dI)) (C := cC (lay a.toNat).2) (T := cT (lay a.toNat).2) (N := cN (lay a.toNat).2) hx hb hts (uws_in _ hc6) (cTy (lay a.toNat).2) (cty_ok _ hc6) (cnm_ok _ hc6) hown hK hP hD hS _ hq (cl_at _ hc6) k hk (hts _ hw1) (same_f (o := o) (i := i) hts hw2) hfn hi1 hi2 (cty_ok _ hc6 k hk) hna hfi (by omega) hdg kk
        · exact va_put (D := (dC, dI)) (C := cC (lay a.toNat).2) (T := cT (lay a.toNat).2) (N := cN (lay a.toNat).2) hx hb hts (uws_in _ hc6) (cTy (lay a.toNat).2) (cty_ok _ hc6) (cnm_ok _ hc6) hown hK hP hD hS _ hq (cl_at _ hc6) k hk (hts _ hw1) (same_f (o := o) (i := i) hts hw2) (by simpa using hfn) (cty_ok _ hc6 k hk) hna hfi (by omega) hdg kk
      · rw [hl1] at z; exact absurd z (by decide)
      · rw [hl1] at z; exact absurd z (by decide)
      · rw [hl1] at z; exact absurd z (by decide)
    · rw [if_neg hc] at h
      exact (show False from h).elim
  · exact (show False from h).elim
theorem at_ir (hx : p.tables.exec = Jvm.exec) (hb : c.code = cc) (hX : va_X b L0 xs0 s s.heap) (hbl : b < s.heap.size) (hbA : ¬ A b) (hdg : decode cc pc = .ok (.iaload, 1))
    (h : Nx (gW p l e R s mi args below meth c Q n0) (WX dC dI b L0 xs0 s A w0 n0) mi b nL nF sto (irA pc L st)) : At (gW p l e R s mi args below meth c Q n0) (WX dC dI b L0 xs0 s A w0 n0) mi b nL pc L st sto := by
  unfold irA at h
  split at h
  · rename_i i a r
    intro H locs ls lv xs ws tys hV hl hL hr hs0
    obtain ⟨y, ys, rfl, hy, hs1⟩ := rvs_i hs0
    obtain ⟨x', ys, rfl, hv1, hs2⟩ := rvs_cons hs1
    have hV' := hV
    obtain ⟨hK, hP, hD, hS, hw, hxt, hn⟩ := hV
    split at h
    · rename_i ha
      subst ha
      rw [rvl_scr hv1]
      obtain ⟨h1, h2, h3⟩ := h
      dsimp only at h1 h2
      rw [hw.2.2.1] at h2
      exact va_sld hx hb hX hbl hbA hS (vp_in_iff.mpr ⟨by omega, by omega⟩) hdg
        (h3 H locs ls lv _ ws tys hV' hl hL hr ⟨rvs_ii (by show _ = sto.2 1 i.toNat; rw [show y.toNatClampNeg = i.toNat from by rw [← hy]; rfl]; exact hw.2.2.2 _ (by omega)), hs2⟩)
    · split at h
      · rename_i hc
        obtain ⟨h2, hl1, h3, h4⟩ := hc
        obtain ⟨q, en, hq, rfl⟩ := rvl_ref hv1 h2
        have hcr := wre_at hw h2 hq
        rcases hcr with ⟨z, -⟩ | ⟨-, cA, f, rfl, ⟨t0, ht0⟩, hf⟩ | ⟨z, -⟩ | ⟨z, -⟩
        · rw [hl1] at z; exact absurd z (by decide)
        · exact va_iald hx hb hK hP _ t0 hq ht0 (vp_in_iff.mpr ⟨by omega, by omega⟩) hdg
            (h H locs ls lv _ ws tys hV' hl hL hr ⟨rvs_ii (by show _ = sto.2 a.toNat i.toNat; rw [show y.toNatClampNeg = i.toNat from by rw [← hy]; rfl]; exact hf _ (by omega)), hs2⟩)
        · rw [hl1] at z; exact absurd z (by decide)
        · rw [hl1] at z; exact absurd z (by decide)
      · exact (show False from h).elim
  · exact (show False from h).elim
theorem at_br (hx : p.tables.exec = Jvm.exec) (hb : c.code = cc) (hdg : decode cc pc = .ok (.baload, 1))
    (h : Nx (gW p l e R s mi args below meth c Q n0) (WX dC dI b L0 xs0 s A w0 n0) mi b nL nF sto (rdA 3 1 pc L st)) : At (gW p l e R s mi args below meth c Q n0) (WX dC dI b L0 xs0 s A w0 n0) mi b nL pc L st sto := by
  unfold rdA at h
  split at h
  · rename_i i a r
    intro H locs ls lv xs ws tys hV hl hL hr hs0
    obtain ⟨y, ys, rfl, hy, hs1⟩ := rvs_i hs0
    obtain ⟨x', ys, rfl, hv1, hs2⟩ := rvs_cons hs1
    have hV' := hV
    obtain ⟨hK, hP, hD, hS, hw, hxt, hn⟩ := hV
    split at h
    · rename_i hc
      obtain ⟨h2, hl1, h3, h4⟩ := hc
      obtain ⟨q, en, hq, rfl⟩ := rvl_ref hv1 h2
      have hcr := wre_at hw h2 hq
      rcases hcr with ⟨z, -⟩ | ⟨z, -⟩ | ⟨-, cA, f, rfl, ⟨t0, ht0⟩, hf⟩ | ⟨z, -⟩
      · rw [hl1] at z; exact absurd z (by decide)
      · rw [hl1] at z; exact absurd z (by decide)
      · exact va_zald hx hb hK hP _ t0 hq ht0 (vp_in_iff.mpr ⟨by omega, by omega⟩) hdg
          (h H locs ls lv _ ws tys hV' hl hL hr ⟨rvs_ii (by show _ = sto.2 a.toNat i.toNat; rw [show y.toNatClampNeg = i.toNat from by rw [← hy]; rfl]; exact hf _ (by omega)), hs2⟩)
      · rw [hl1] at z; exact absurd z (by decide)
    · exact (show False from h).elim
  · exact (show False from h).elim
theorem at_ar (hx : p.tables.exec = Jvm.exec) (hb : c.code = cc) (hdg : decode cc pc = .ok (.aaload, 1))
    (h : Nx (gW p l e R s mi args below meth c Q n0) (WX dC dI b L0 xs0 s A w0 n0) mi b nL nF sto (rdA 4 3 pc L st)) : At (gW p l e R s mi args below meth c Q n0) (WX dC dI b L0 xs0 s A w0 n0) mi b nL pc L st sto := by
  unfold rdA at h
  split at h
  · rename_i i a r
    intro H locs ls lv xs ws tys hV hl hL hr hs0
    obtain ⟨y, ys, rfl, hy, hs1⟩ := rvs_i hs0
    obtain ⟨x', ys, rfl, hv1, hs2⟩ := rvs_cons hs1
    have hV' := hV
    obtain ⟨hK, hP, hD, hS, hw, hxt, hn⟩ := hV
    split at h
    · rename_i hc
      obtain ⟨h2, hl1, h3, h4⟩ := hc
      obtain ⟨q, en, hq, rfl⟩ := rvl_ref hv1 h2
      have hcr := wre_at hw h2 hq
      rcases hcr with ⟨z, -⟩ | ⟨z, -⟩ | ⟨z, -⟩ | ⟨-, cA, f, rfl, ⟨t0, ht0⟩, hf⟩
      · rw [hl1] at z; exact absurd z (by decide)
      · rw [hl1] at z; exact absurd z (by decide)
      · rw [hl1] at z; exact absurd z (by decide)
      · exact va_aldq hx hb hK hP _ t0 hq ht0 (vp_in_iff.mpr ⟨by omega, by omega⟩) hdg
          (h H locs ls lv _ ws tys hV' hl hL hr ⟨by show rvl ws b (3, sto.2 a.toNat i.toNat) _; rw [show y.toNatClampNeg = i.toNat from by rw [← hy]; rfl]; exact hf _ (by omega), hs2⟩)
    · exact (show False from h).elim
  · exact (show False from h).elim
theorem upS_at {f : Nat → Nat → Int} {a k : Nat} {x : Int} : upS f a k x a k = x := by simp [upS]
theorem upS_ne {f : Nat → Nat → Int} {a k j : Nat} {x : Int} (h : j ≠ k) : upS f a k x a j = f a j := by simp [upS, h]
theorem at_iw (hx : p.tables.exec = Jvm.exec) (hb : c.code = cc) (hdg : decode cc pc = .ok (.iastore, 1))
    (h : Nx (gW p l e R s mi args below meth c Q n0) (WX dC dI b L0 xs0 s A w0 n0) mi b nL nF sto (iwA pc L st)) : At (gW p l e R s mi args below meth c Q n0) (WX dC dI b L0 xs0 s A w0 n0) mi b nL pc L st sto := by
  unfold iwA at h
  split at h
  · rename_i x i a r
    split at h
    · rename_i hc
      obtain ⟨h2, hl1, h3, h4⟩ := hc
      intro H locs ls lv xs ws tys hV hl hL hr hs0
      obtain ⟨z, ys, rfl, hz, hs1⟩ := rvs_i hs0
      obtain ⟨y, ys, rfl, hy, hs2⟩ := rvs_i hs1
      obtain ⟨x', ys, rfl, hv1, hs3⟩ := rvs_cons hs2
      obtain ⟨hK, hP, hD, hS, hw, hxt, hn⟩ := hV
      obtain ⟨q, en, hq, rfl⟩ := rvl_ref hv1 h2
      have hcr := wre_at hw h2 hq
      have hae : a.toNat - 2 + 2 = a.toNat := by omega
      have hyi : y.toNatClampNeg = i.toNat := by rw [← hy]; rfl
      rcases hcr with ⟨z, -⟩ | ⟨-, cA, f, rfl, ⟨t0, ht0⟩, hf⟩ | ⟨z, -⟩ | ⟨z, -⟩
      · rw [hl1] at z; exact absurd z (by decide)
      · refine va_iast hx hb hK hP hD hS _ t0 hq ht0 (vp_in_iff.mpr ⟨by omega, by omega⟩) hdg fun H1 locs1 hP1 hD1 hS1 => ?_
        have hcp : cre (ws.set (a.toNat - 2) (q, .inl (cA, (lay a.toNat).2, .inl (upd f y.toNatClampNeg z)))) tys b (upS sto.2 (a.toNat - 2 + 2) i.toNat x (a.toNat - 2 + 2)) (lay (a.toNat - 2 + 2)) (.inl (cA, (lay a.toNat).2, .inl (upd f y.toNatClampNeg z))) := by
          rw [hae]
          refine Or.inr (Or.inl ⟨hl1, _, _, rfl, ⟨t0, ht0⟩, fun j hj => ?_⟩)
          rw [hyi]
          unfold upd
          by_cases hji : j = i.toNat
          · rw [if_pos hji, hji, upS_at]; exact hz
          · rw [if_neg hji, upS_ne hji]; exact hf j hj
        have hw' := wre_up hw hq hcp
        rw [hae] at hw'
        exact h H1 locs1 ls lv _ _ tys ⟨hK, hP1, hD1, hS1, hw', ext_tr hxt (ext_set hq), hn⟩ hl hL (rls_ext (ext_set hq) hr) (rvs_ext (ext_set hq) hs3)
      · rw [hl1] at z; exact absurd z (by decide)
      · rw [hl1] at z; exact absurd z (by decide)
    · exact (show False from h).elim
  · exact (show False from h).elim
theorem at_bw (hx : p.tables.exec = Jvm.exec) (hb : c.code = cc) (hdg : decode cc pc = .ok (.bastore, 1))
    (h : Nx (gW p l e R s mi args below meth c Q n0) (WX dC dI b L0 xs0 s A w0 n0) mi b nL nF sto (bwA pc L st)) : At (gW p l e R s mi args below meth c Q n0) (WX dC dI b L0 xs0 s A w0 n0) mi b nL pc L st sto := by
  unfold bwA at h
  split at h
  · rename_i x i a r
    split at h
    · rename_i hc
      obtain ⟨h2, hl1, h3, h4, h01⟩ := hc
      intro H locs ls lv xs ws tys hV hl hL hr hs0
      obtain ⟨z, ys, rfl, hz, hs1⟩ := rvs_i hs0
      obtain ⟨y, ys, rfl, hy, hs2⟩ := rvs_i hs1
      obtain ⟨x', ys, rfl, hv1, hs3⟩ := rvs_cons hs2
      obtain ⟨hK, hP, hD, hS, hw, hxt, hn⟩ := hV
      obtain ⟨q, en, hq, rfl⟩ := rvl_ref hv1 h2
      have hcr := wre_at hw h2 hq
      have hae : a.toNat - 2 + 2 = a.toNat := by omega
      have hyi : y.toNatClampNeg = i.toNat := by rw [← hy]; rfl
      have hnz : vp_nar .boolean z = z := by
        have : z = 0 ∨ z = 1 := by
          rcases h01 with h | h
          · exact Or.inl (Int32.toInt_inj.mp (by rw [hz, h]; rfl))
          · exact Or.inr (Int32.toInt_inj.mp (by rw [hz, h]; rfl))
        rcases this with rfl | rfl <;> decide
      rcases hcr with ⟨z, -⟩ | ⟨z, -⟩ | ⟨-, cA, f, rfl, ⟨t0, ht0⟩, hf⟩ | ⟨z, -⟩
      · rw [hl1] at z; exact absurd z (by decide)
      · rw [hl1] at z; exact absurd z (by decide)
      · refine va_zast hx hb hK hP hD hS _ t0 hq ht0 (vp_in_iff.mpr ⟨by omega, by omega⟩) hdg fun H1 locs1 hP1 hD1 hS1 => ?_
        rw [hnz] at hP1 hD1
        have hcp : cre (ws.set (a.toNat - 2) (q, .inl (cA, (lay a.toNat).2, .inl (upd f y.toNatClampNeg z)))) tys b (upS sto.2 (a.toNat - 2 + 2) i.toNat x (a.toNat - 2 + 2)) (lay (a.toNat - 2 + 2)) (.inl (cA, (lay a.toNat).2, .inl (upd f y.toNatClampNeg z))) := by
          rw [hae]
          refine Or.inr (Or.inr (Or.inl ⟨hl1, _, _, rfl, ⟨t0, ht0⟩, fun j hj => ?_⟩))
          rw [hyi]
          unfold upd
          by_cases hji : j = i.toNat
          · rw [if_pos hji, hji, upS_at]; exact hz
          · rw [if_neg hji, upS_ne hji]; exact hf j hj
        have hw' := wre_up hw hq hcp
        rw [hae] at hw'
        exact h H1 locs1 ls lv _ _ tys ⟨hK, hP1, hD1, hS1, hw', ext_tr hxt (ext_set hq), hn⟩ hl hL (rls_ext (ext_set hq) hr) (rvs_ext (ext_set hq) hs3)
      · rw [hl1] at z; exact absurd z (by decide)
    · exact (show False from h).elim
  · exact (show False from h).elim
theorem at_aw (hx : p.tables.exec = Jvm.exec) (hb : c.code = cc) (hdg : decode cc pc = .ok (.aastore, 1))
    (h : Nx (gW p l e R s mi args below meth c Q n0) (WX dC dI b L0 xs0 s A w0 n0) mi b nL nF sto (awA pc L st)) : At (gW p l e R s mi args below meth c Q n0) (WX dC dI b L0 xs0 s A w0 n0) mi b nL pc L st sto := by
  unfold awA at h
  split at h
  · rename_i x i a r
    split at h
    · rename_i hc
      obtain ⟨h2, hl1, h3, h4, hx2, hlx⟩ := hc
      intro H locs ls lv xs ws tys hV hl hL hr hs0
      obtain ⟨vz, ys, rfl, hvz, hs1⟩ := rvs_cons hs0
      obtain ⟨y, ys, rfl, hy, hs2⟩ := rvs_i hs1
      obtain ⟨x', ys, rfl, hv1, hs3⟩ := rvs_cons hs2
      obtain ⟨hK, hP, hD, hS, hw, hxt, hn⟩ := hV
      obtain ⟨q, en, hq, rfl⟩ := rvl_ref hv1 h2
      obtain ⟨qz, ez, hqz, rfl⟩ := rvl_ref hvz hx2
      have hcr := wre_at hw h2 hq
      have hcz := wre_at hw hx2 hqz
      have hae : a.toNat - 2 + 2 = a.toNat := by omega
      have hyi : y.toNatClampNeg = i.toNat := by rw [← hy]; rfl
      rw [hlx] at hcz
      rcases hcz with ⟨-, fz, rfl, -⟩ | ⟨z, -⟩ | ⟨z, -⟩ | ⟨z, -⟩
      · rcases hcr with ⟨z, -⟩ | ⟨z, -⟩ | ⟨z, -⟩ | ⟨-, cA, f, rfl, ⟨t0, ht0⟩, hf⟩
        · rw [hl1] at z; exact absurd z (by decide)
        · rw [hl1] at z; exact absurd z (by decide)
        · rw [hl1] at z; exact absurd z (by decide)
        · refine va_astq (r := (cC 1, cT 1, cN 1)) hx hb hK hP hD hS _ t0 _ 1 hq ht0 hqz (cl_at 1 (by decide)) (vp_in_iff.mpr ⟨by omega, by omega⟩) hdg fun H1 locs1 hP1 hD1 hS1 => ?_
          have hcp : cre (ws.set (a.toNat - 2) (q, .inl (cA, (lay a.toNat).2, .inr (.inr (.inr (.inr (va_up f y.toNatClampNeg (some qz)))))))) tys b (upS sto.2 (a.toNat - 2 + 2) i.toNat x (a.toNat - 2 + 2)) (lay (a.toNat - 2 + 2)) (.inl (cA, (lay a.toNat).2, .inr (.inr (.inr (.inr (va_up f y.toNatClampNeg (some qz))))))) := by
            rw [hae]
            refine Or.inr (Or.inr (Or.inr ⟨hl1, _, _, rfl, ⟨t0, ht0⟩, fun j hj => ?_⟩))
            rw [hyi]
            unfold va_up
            by_cases hji : j = i.toNat
            · rw [if_pos hji, hji, upS_at]; exact rvl_ext (ext_set hq) hvz
            · rw [if_neg hji, upS_ne hji]; exact rvl_ext (ext_set hq) (hf j hj)
          have hw' := wre_up hw hq hcp
          rw [hae] at hw'
          exact h H1 locs1 ls lv _ _ tys ⟨hK, hP1, hD1, hS1, hw', ext_tr hxt (ext_set hq), hn⟩ hl hL (rls_ext (ext_set hq) hr) (rvs_ext (ext_set hq) hs3)
      · exact absurd z (by decide)
      · exact absurd z (by decide)
      · exact absurd z (by decide)
    · exact (show False from h).elim
  · exact (show False from h).elim
theorem at_ln (hx : p.tables.exec = Jvm.exec) (hb : c.code = cc) (hX : va_X b L0 xs0 s s.heap) (hbl : b < s.heap.size) (hbA : ¬ A b) (hL0 : L0 < 2147483648) (hdg : decode cc pc = .ok (.arraylength, 1))
    (h : Nx (gW p l e R s mi args below meth c Q n0) (WX dC dI b L0 xs0 s A w0 n0) mi b nL nF sto (lnA pc L st)) : At (gW p l e R s mi args below meth c Q n0) (WX dC dI b L0 xs0 s A w0 n0) mi b nL pc L st sto := by
  unfold lnA at h
  split at h
  · rename_i a r
    intro H locs ls lv xs ws tys hV hl hL hr hs0
    obtain ⟨x', ys, rfl, hv1, hs1⟩ := rvs_cons hs0
    have hV' := hV
    obtain ⟨hK, hP, hD, hS, hw, hxt, hn⟩ := hV
    split at h
    · rename_i ha
      subst ha
      rw [rvl_scr hv1]
      exact va_slen hx hb hX hbl hbA hS hdg
        (h H locs ls lv _ ws tys hV' hl hL hr ⟨rvs_ii (by show (nI L0).toInt = sto.2 0 0; rw [hw.2.2.1]; exact nI_toInt (by omega)), hs1⟩)
    · split at h
      · rename_i hc
        obtain ⟨h2, hl1⟩ := hc
        obtain ⟨q, en, hq, rfl⟩ := rvl_ref hv1 h2
        have hcr := wre_at hw h2 hq
        rcases hcr with ⟨z, -⟩ | ⟨-, cA, f, rfl, ⟨t0, ht0⟩, hf⟩ | ⟨z, -⟩ | ⟨z, -⟩
        · rw [hl1] at z; exact absurd z (by decide)
        · exact va_alen (v := nI (lay a.toNat).2) hx hb hK hP _ t0 hq ht0 rfl hdg
            (h H locs ls lv _ ws tys hV' hl hL hr ⟨rvs_ii (nI_toInt (lay_small _)), hs1⟩)
        · rw [hl1] at z; exact absurd z (by decide)
        · rw [hl1] at z; exact absurd z (by decide)
      · exact (show False from h).elim
  · exact (show False from h).elim
theorem at_oi {o i : Nat} (hx : p.tables.exec = Jvm.exec) (hb : c.code = cc) (hml : c.maxLocals = nL) (hts : ∀ w ∈ gw_tbl, w.before args s = true) (hown : s.vm.findClass (oS o) = some mi.cls) (hok : hasI obT o i = true) (hfr : 1 ≤ R.frames) (hlo : 12 ≤ R.locals) (hdg : decode cc pc = .ok (.invokespecial i, 3))
    (h : Nx (gW p l e R s mi args below meth c Q n0) (WX dC dI b L0 xs0 s A w0 n0) mi b nL nF sto (oiA pc L st)) : At (gW p l e R s mi args below meth c Q n0) (WX dC dI b L0 xs0 s A w0 n0) mi b nL pc L st sto := by
  unfold oiA at h
  split at h
  · rename_i a r
    split at h
    · rename_i hc
      obtain ⟨h2, hr0⟩ := hc
      intro H locs ls lv xs ws tys hV hl hL hr hs0
      obtain ⟨x', ys, rfl, hv1, hs1⟩ := rvs_cons hs0
      obtain ⟨q, en, hq, rfl⟩ := rvl_ref hv1 h2
      have hy0 : ys = [] := List.eq_nil_of_length_eq_zero (by rw [rvs_len hs1]; exact hr0)
      subst hy0
      unfold hasI at hok
      obtain ⟨z, hz, hzz⟩ := List.any_eq_true.mp hok
      have hw := obT_ok z hz
      obtain ⟨o', i', w⟩ := z
      simp only [Bool.and_eq_true, beq_iff_eq] at hzz
      obtain ⟨rfl, rfl⟩ := hzz
      refine W.objInit hx hb hown (hts _ (atW.mem hw)) (hts _ (atW.mem obI_ok)) (hts _ (atW.mem obC_ok)) rfl (by rw [hml]; exact hl.1) rfl hdg hfr hlo ?_
      exact h H locs ls lv _ ws tys hV hl hL hr hs1
    · exact (show False from h).elim
  · exact (show False from h).elim
/-- a new object -/
theorem at_new {o i ci : Nat} (hx : p.tables.exec = Jvm.exec) (hb : c.code = cc) (hts : ∀ w ∈ gw_tbl, w.before args s = true) (hown : s.vm.findClass (oS o) = some mi.cls) (hA : ∀ q, s.heap.size ≤ q → A q) (hok : hasN nwT o i ci = true) (hRc : nF - n0 ≤ R.cells) (hRs : SL nF - SL n0 ≤ R.slots) (hdg : decode cc pc = .ok (.new i, 3))
    (h : Nx (gW p l e R s mi args below meth c Q n0) (WX dC dI b L0 xs0 s A w0 n0) mi b nL nF sto (4, pc + 3, 1, ci, false, (0, 0), L, st, [])) : At (gW p l e R s mi args below meth c Q n0) (WX dC dI b L0 xs0 s A w0 n0) mi b nL pc L st sto := by
  obtain ⟨hlay, hnF, h⟩ := h
  intro H locs ls lv xs ws tys hV hl hL hr hs0
  obtain ⟨hK, hP, hD, hS, hw, hxt, hn⟩ := hV
  unfold hasN at hok
  obtain ⟨z, hz, hzz⟩ := List.any_eq_true.mp hok
  have hwd := nwT_ok z hz
  obtain ⟨o', i', ci', w1, w2, w3⟩ := z
  simp only [Bool.and_eq_true, beq_iff_eq] at hzz
  obtain ⟨⟨rfl, rfl⟩, rfl⟩ := hzz
  simp only [okNw, Bool.and_eq_true, decide_eq_true_eq] at hwd
  obtain ⟨⟨⟨hc6, k1⟩, k2⟩, k3⟩ := hwd
  have hsz : SL (sto.1 + 1) = SL sto.1 + cN ci' := by
    show SL sto.1 + szL (lay sto.1) = _
    rw [hlay]; rfl
  have hm1 := SL_mono hn
  have hm2 := SL_mono hnF
  have e1 : sto.1 + 1 - n0 = sto.1 - n0 + 1 := by omega
  have e2 : SL (sto.1 + 1) - SL n0 = SL sto.1 - SL n0 + cN ci' := by omega
  refine va_new (D := (dC, dI)) (C := cC ci') (T := cT ci') (N := cN ci') (fs := (List.range (cN ci')).map (fun k => defaultValue (cTy ci' k))) hx hb hts (uws_in _ hc6) (cTy ci') (cty_ok _ hc6) hown (hts _ (atW.mem k1)) (hts _ (atW.mem k2)) (hts _ (atW.mem k3)) hK hP hD hS hA (cl_at _ hc6) (fun j hj => by simp [vp_V, hj]) (by omega) (by omega) hdg fun q H1 hP1 hD1 hS1 => ?_
  have hcr : cre (ws ++ [(q, .inr (ci', (List.range (cN ci')).map (fun k => defaultValue (cTy ci' k))))]) tys b (fun _ => 0) (lay sto.1) (.inr (ci', (List.range (cN ci')).map (fun k => defaultValue (cTy ci' k)))) := by
    rw [hlay]
    refine Or.inl ⟨rfl, _, rfl, hc6, by simp, fun k hk => ⟨defaultValue (cTy ci' k), by simp [show k < cN ci' from hk], ?_⟩⟩
    show rvl _ b ((if slotTag ci' k = 3 then 3 else 1), 0) _
    rcases okSl_at hc6 hk with ⟨g1, g2⟩ | ⟨g1, g2⟩ | ⟨g1, g2⟩
    · rw [g1, g2]; exact Or.inl ⟨rfl, 0, rfl, rfl⟩
    · rw [g1, g2]; exact Or.inl ⟨rfl, 0, rfl, rfl⟩
    · rw [g1]
      revert g2
      cases cTy ci' k <;> intro g2 <;> first | exact Or.inr (Or.inr ⟨rfl, Or.inl ⟨rfl, rfl⟩⟩) | exact absurd g2 (by decide)
  have hw' := wre_new hw (fun t0 q h => ⟨t0, h⟩) hcr
  have hlen := hw.1
  have hlast : (ws ++ [(q, va_E_inr ci' ((List.range (cN ci')).map (fun k => defaultValue (cTy ci' k))))])[ws.length]? = some (q, va_E_inr ci' ((List.range (cN ci')).map (fun k => defaultValue (cTy ci' k)))) := by simp
  have k := h H1 locs ls lv (.ref q :: xs) _ tys ⟨hK, hP1, hD1, hS1, hw', ext_tr hxt ext_app, by show n0 ≤ sto.1 + 1; omega⟩ hl hL (rls_ext ext_app hr) ⟨by
    have := rvs_rr (b := b) hlast
    rw [show ((ws.length : Int) + 2) = (sto.1 : Int) by omega] at this
    exact this, rvs_ext ext_app hs0⟩
  unfold gW at k
  dsimp only at k
  rw [e1, e2] at k
  exact k
/-- a new row of ints (kind 2) or booleans (3) -/
theorem at_na {kind : Nat} {t : ArrayType} {ty : FieldType} (hty : Op.newarray.typeOf t = ty) (hkt : (kind = 2 ∧ ty = .int) ∨ (kind = 3 ∧ ty = .boolean)) (hx : p.tables.exec = Jvm.exec) (hb : c.code = cc) (hts : ∀ w ∈ gw_tbl, w.before args s = true) (hA : ∀ q, s.heap.size ≤ q → A q) (hwd : Cond.arrayClass ty ∈ gw_tbl) (hRc : nF - n0 ≤ R.cells) (hRs : SL nF - SL n0 ≤ R.slots) (hdg : decode cc pc = .ok (.newarray t, 2))
    (h : Nx (gW p l e R s mi args below meth c Q n0) (WX dC dI b L0 xs0 s A w0 n0) mi b nL nF sto (naA kind 2 pc L st)) : At (gW p l e R s mi args below meth c Q n0) (WX dC dI b L0 xs0 s A w0 n0) mi b nL pc L st sto := by
  unfold naA at h
  split at h
  · rename_i x r
    split at h
    · rename_i hc
      obtain ⟨hlay, hnF, h⟩ := h
      intro H locs ls lv xs ws tys hV hl hL hr hs0
      obtain ⟨y, ys, rfl, hy, hs1⟩ := rvs_i hs0
      obtain ⟨hK, hP, hD, hS, hw, hxt, hn⟩ := hV
      have hkn : kind ≠ 1 := by rcases hkt with ⟨h, -⟩ | ⟨h, -⟩ <;> omega
      have hsz : SL (sto.1 + 1) = SL sto.1 + x.toNat := by
        show SL sto.1 + szL (lay sto.1) = _
        rw [hlay]
        show _ + (if kind = 1 then cN x.toNat else x.toNat) = _
        rw [if_neg hkn]
      have hm1 := SL_mono hn
      have hm2 := SL_mono hnF
      have e1 : sto.1 + 1 - n0 = sto.1 - n0 + 1 := by omega
      have e2 : SL (sto.1 + 1) - SL n0 = SL sto.1 - SL n0 + x.toNat := by omega
      have hyx : y.toNatClampNeg = x.toNat := by rw [← hy]; rfl
      have hcb : componentBytes ty ≤ 8 := by rcases hkt with ⟨-, rfl⟩ | ⟨-, rfl⟩ <;> decide
      refine va_newa (ty := ty) (N' := x.toNat) (a0 := (x.toNat, .inl (fun _ => 0))) hx hb (by rw [hty]; exact hts _ hwd) hty hK hP hD hS hA (fun cA => by rcases hkt with ⟨-, rfl⟩ | ⟨-, rfl⟩ <;> rfl) (not_neg hy hc.1) hyx (Nat.le_trans (Nat.mul_le_mul (show x.toNat ≤ 1000 by omega) hcb) (by decide)) (by omega) (by omega) hdg fun q cA H1 hK1 hP1 hD1 hS1 => ?_
      have hta : ∃ t0 : Nat, (tys ++ [(cA, ty)])[t0]? = some (cA, ty) := ⟨tys.length, by simp⟩
      have hcr : cre (ws ++ [(q, .inl (cA, x.toNat, .inl (fun _ => 0)))]) (tys ++ [(cA, ty)]) b (fun _ => 0) (lay sto.1) (.inl (cA, x.toNat, .inl (fun _ => 0))) := by
        rw [hlay]
        rcases hkt with ⟨rfl, rfl⟩ | ⟨rfl, rfl⟩
        · exact Or.inr (Or.inl ⟨rfl, cA, fun _ => 0, rfl, hta, fun k hk => rfl⟩)
        · exact Or.inr (Or.inr (Or.inl ⟨rfl, cA, fun _ => 0, rfl, hta, fun k hk => rfl⟩))
      have hw' := wre_new hw tyx_app hcr
      have hlen := hw.1
      have hlast : (ws ++ [(q, va_E_inl (cA, x.toNat, .inl (fun _ => 0)))])[ws.length]? = some (q, va_E_inl (cA, x.toNat, .inl (fun _ => 0))) := by simp
      have k := h H1 locs ls lv (.ref q :: ys) _ _ ⟨hK1, hP1, hD1, hS1, hw', ext_tr hxt ext_app, by show n0 ≤ sto.1 + 1; omega⟩ hl hL (rls_ext ext_app hr) ⟨by
        have := rvs_rr (b := b) hlast
        rw [show ((ws.length : Int) + 2) = (sto.1 : Int) by omega] at this
        exact this, rvs_ext ext_app hs1⟩
      unfold gW at k
      dsimp only at k
      rw [e1, e2] at k
      exact k
    · exact (show False from h).elim
  · exact (show False from h).elim
/-- a new row of references -/
theorem at_nr {o i : Nat} (hx : p.tables.exec = Jvm.exec) (hb : c.code = cc) (hts : ∀ w ∈ gw_tbl, w.before args s = true) (hown : s.vm.findClass (oS o) = some mi.cls) (hA : ∀ q, s.heap.size ≤ q → A q) (hAO : va_AO "FasterForTheRich$Town" s) (hok : hasI anT o i = true) (hRc : nF - n0 ≤ R.cells) (hRs : SL nF - SL n0 ≤ R.slots) (hdg : decode cc pc = .ok (.anewarray i, 3))
    (h : Nx (gW p l e R s mi args below meth c Q n0) (WX dC dI b L0 xs0 s A w0 n0) mi b nL nF sto (naA 4 3 pc L st)) : At (gW p l e R s mi args below meth c Q n0) (WX dC dI b L0 xs0 s A w0 n0) mi b nL pc L st sto := by
  unfold naA at h
  split at h
  · rename_i x r
    split at h
    · rename_i hc
      obtain ⟨hlay, hnF, h⟩ := h
      intro H locs ls lv xs ws tys hV hl hL hr hs0
      obtain ⟨y, ys, rfl, hy, hs1⟩ := rvs_i hs0
      obtain ⟨hK, hP, hD, hS, hw, hxt, hn⟩ := hV
      unfold hasI at hok
      obtain ⟨z, hz, hzz⟩ := List.any_eq_true.mp hok
      have hwd := anT_ok z hz
      obtain ⟨o', i', w1, w2⟩ := z
      simp only [Bool.and_eq_true, beq_iff_eq] at hzz
      obtain ⟨rfl, rfl⟩ := hzz
      have hsz : SL (sto.1 + 1) = SL sto.1 + x.toNat := by
        show SL sto.1 + szL (lay sto.1) = _
        rw [hlay]; rfl
      have hm1 := SL_mono hn
      have hm2 := SL_mono hnF
      have e1 : sto.1 + 1 - n0 = sto.1 - n0 + 1 := by omega
      have e2 : SL (sto.1 + 1) - SL n0 = SL sto.1 - SL n0 + x.toNat := by omega
      have hyx : y.toNatClampNeg = x.toNat := by rw [← hy]; rfl
      refine va_newq (C := "FasterForTheRich$Town") (N' := x.toNat) hx hb hown (hts _ (atW.mem hwd)) hAO hK hP hD hS hA (not_neg hy hc.1) hyx (by omega) (by omega) (by omega) hdg fun q cA H1 hK1 hP1 hD1 hS1 => ?_
      have hta : ∃ t0 : Nat, (tys ++ [(cA, FieldType.object "FasterForTheRich$Town")])[t0]? = some (cA, .object "FasterForTheRich$Town") := ⟨tys.length, by simp⟩
      have hcr : cre (ws ++ [(q, .inl (cA, x.toNat, .inr (.inr (.inr (.inr (fun _ => none))))))]) (tys ++ [(cA, .object "FasterForTheRich$Town")]) b (fun _ => 0) (lay sto.1) (.inl (cA, x.toNat, .inr (.inr (.inr (.inr (fun _ => none)))))) := by
        rw [hlay]
        exact Or.inr (Or.inr (Or.inr ⟨rfl, cA, fun _ => none, rfl, hta, fun k hk => Or.inr (Or.inr ⟨rfl, Or.inl ⟨rfl, rfl⟩⟩)⟩))
      have hw' := wre_new hw tyx_app hcr
      have hlen := hw.1
      have hlast : (ws ++ [(q, va_E_inl (cA, x.toNat, .inr (.inr (.inr (.inr (fun _ => none))))))])[ws.length]? = some (q, va_E_inl (cA, x.toNat, .inr (.inr (.inr (.inr (fun _ => none)))))) := by simp
      have k := h H1 locs ls lv (.ref q :: ys) _ _ ⟨hK1, hP1, hD1, hS1, hw', ext_tr hxt ext_app, by show n0 ≤ sto.1 + 1; omega⟩ hl hL (rls_ext ext_app hr) ⟨by
        have := rvs_rr (b := b) hlast
        rw [show ((ws.length : Int) + 2) = (sto.1 : Int) by omega] at this
        exact this, rvs_ext ext_app hs1⟩
      unfold gW at k
      dsimp only at k
      rw [e1, e2] at k
      exact k
    · exact (show False from h).elim
  · exact (show False from h).elim
end HEAP
end
section
/-! CALLS: what a method owes, and how a call uses it. -/
def cPc (dC : Nat → ClassId) (dI : Nat → Nat → Nat) (b L0 : Nat) (xs0 : Nat → Int32) (ws : va_W) (tys : List (ClassId × FieldType)) (sz : Nat) (xs : List Value) : Array Value → State → Prop :=
  va_Pc xs (fun U => va_P (dC, dI) classes ws U.heap ∧ va_K (dC, dI) classes tys U ∧ va_D (fun _ => True) ws ∧ va_X b L0 xs0 U U.heap ∧ b < U.heap.size ∧ va_AO "FasterForTheRich$Town" U ∧ U.heap.size = sz)
def cQc (dC : Nat → ClassId) (dI : Nat → Nat → Nat) (b L0 : Nat) (xs0 : Nat → Int32) (ws : va_W) (sz : Nat) (r : List Vl) (sto' : Sto) : Array Value → State → Outcome → State → Prop := fun _ st o t =>
  (∃ (xs1 : List Value) (ws1 : va_W) (tys1 : List (ClassId × FieldType)), o = .returned xs1.head? ∧ xs1.length ≤ 1 ∧ rvs ws1 b r xs1 ∧ wre ws1 tys1 b L0 xs0 sto' ∧ va_P (dC, dI) classes ws1 t.heap ∧ va_K (dC, dI) classes tys1 t ∧ va_D (va_A ws sz) ws1 ∧ ext ws ws1) ∧ va_F (va_A ws sz) st t
def cWs (j : Nat) : List Cond := .code (mY j) (mB j) (mL j) (mR j) :: gw_tbl
def cRm (j : Nat) (sto sto' : Sto) : Room := { frames := mFr j, cells := sto'.1 - sto.1, slots := SL sto'.1 - SL sto.1, locals := mLo j }
def MetOK (l : Launch) (j : Nat) (as : List Vl) (sto : Sto) (r : List Vl) (sto' : Sto) : Prop :=
  ∀ (dC : Nat → ClassId) (dI : Nat → Nat → Nat) (b L0 : Nat) (xs0 : Nat → Int32) (ws : va_W) (tys : List (ClassId × FieldType)) (sz : Nat) (xs : List Value), rvs ws b as xs → wre ws tys b L0 xs0 sto → (∀ (k q : Nat) (e : va_E), ws[k]? = some (q, e) → q ≠ b) → L0 < 2147483648 →
    Met l (mY j) (cWs j) (cRm j sto sto') (cPc dC dI b L0 xs0 ws tys sz xs) (cQc dC dI b L0 xs0 ws sz r sto') (sto'.1 - sto.1) (SL sto'.1 - SL sto.1) (va_A ws sz)
theorem cPc_blind {dC : Nat → ClassId} {dI : Nat → Nat → Nat} {b L0 : Nat} {xs0 : Nat → Int32} {ws : va_W} {tys : List (ClassId × FieldType)} {sz : Nat} {xs : List Value} : FrameBlind (cPc dC dI b L0 xs0 ws tys sz xs) := by
  intro a U g mk q
  obtain ⟨q0, qP, qK, qD, qX, qb, qA, qz⟩ := q
  exact ⟨q0, qP, va_K.moved (u := U) (U := U.calling g mk a) (Vm.Alike.refl U.vm) qK, qD, va_X.moved (u := U) (U := U.calling g mk a) (Vm.Alike.refl U.vm) qX, qb, va_AO.moved (u := U) (U := U.calling g mk a) (Vm.Alike.refl U.vm) qA, qz⟩
theorem gw_good {w : Cond} (h : w ∈ gw_tbl) : w ∈ gw_tbl ∧ ((w.onTables && w.keeps) = true ∨ ∃ ty, w = .arrayClass ty) := ⟨h, good_of_word (List.mem_filter.mp h).2⟩
theorem me_at {j : Nat} (h : j < 225) : (mY j).cls = oS (mO j) ∧ Cond.code (mY j) (mB j) (mL j) (mR j) ∈ gw_tbl ∧ Cond.initialized (oS (mO j)) ∈ gw_tbl ∧ (if mS j = true then Cond.static (mY j) ∈ gw_tbl else Cond.instanceMethod (mY j) ∈ gw_tbl) ∧ npar (mY j).desc = some (if mS j = true then mNA j else mNA j - 1) ∧ (mS j = true ∨ 1 ≤ mNA j) ∧ (oS (mO j) ≠ "java/lang/invoke/MethodHandle" ∧ oS (mO j) ≠ "java/lang/invoke/VarHandle") ∧ plainName (oS (mO j)) = true := by
  obtain ⟨q, hq, hc⟩ := List.any_eq_true.mp (List.all_eq_true.mp meT_has j (List.mem_range.mpr h))
  have hok := meT_ok q hq
  obtain ⟨j', w1, w2, w3, st⟩ := q
  have hj : j' = j := by simpa using hc
  subst hj
  simp only [okMe, okMH, Bool.and_eq_true, Bool.or_eq_true, decide_eq_true_eq] at hok
  obtain ⟨⟨⟨⟨⟨⟨⟨⟨h0, h1⟩, h2⟩, h3⟩, h4⟩, h5⟩, h6⟩, h7⟩, h8⟩ := hok
  subst h0
  refine ⟨h1, atW.mem h2, atW.mem h3, ?_, h5, h6, h7, h8⟩
  by_cases hs : mS j' = true
  · rw [if_pos hs] at h4 ⊢; exact atW.mem h4
  · rw [if_neg hs] at h4 ⊢; exact atW.mem h4
theorem ml_at {o i j kind : Nat} (h : hasM mlT o i j kind = true) : ∃ (w1 : Nat) (wl : List Nat), okMl (o, i, j, kind, w1, wl) = true := by
  unfold hasM at h
  obtain ⟨q, hq, hc⟩ := List.any_eq_true.mp h
  have hok := mlT_ok q hq
  obtain ⟨o', i', j', k', w1, wl⟩ := q
  simp only [Bool.and_eq_true, beq_iff_eq] at hc
  obtain ⟨⟨⟨rfl, rfl⟩, rfl⟩, rfl⟩ := hc
  exact ⟨w1, wl, hok⟩
theorem head_list : ∀ {xs : List Value}, xs.length ≤ 1 → xs.head?.toList = xs
  | [], _ => rfl
  | [_], _ => rfl
  | _ :: _ :: _, h => absurd h (by simp)
section CALL
variable {p : Program} {l : Launch} {e : Env} {R : Room} {s : State} {mi : MethodId} {args : Array Value} {below : List Frame} {meth : Method} {c : Code} {Q : State → Prop} {n0 : Nat}
variable {dC : Nat → ClassId} {dI : Nat → Nat → Nat} {b L0 : Nat} {xs0 : Nat → Int32} {A : Nat → Prop} {w0 : va_W} {nL nF : Nat} {pc : Nat} {L st : List Vl} {sto sto' : Sto} {cc : ByteArray}
theorem call_go {H : Heap} {locs : List Loc} {ls : Array Slot} {lv : List (Nat × Value)} {ws : va_W} {tys : List (ClassId × FieldType)} {r str : List Vl} {rest st0 : List Value} {a : Array Value}
    (hr : va_Run p l e R s mi args below meth c H locs (sto.1 - n0) (SL sto.1 - SL n0) (sto'.1 - sto.1) (SL sto'.1 - SL sto.1) (F0 mi pc ls st0) rest (cQc dC dI b L0 xs0 ws H.size r sto' a) (va_A ws H.size))
    (hV : WX dC dI b L0 xs0 s A w0 n0 H locs ws tys sto) (hle : sto.1 ≤ sto'.1) (hA : ∀ q, s.heap.size ≤ q → A q)
    (hl : lv_has ls nL lv) (hL : L.length = nL) (hrl : rls ws b L lv) (hs : rvs ws b str rest)
    (k : At (gW p l e R s mi args below meth c Q n0) (WX dC dI b L0 xs0 s A w0 n0) mi b nL (pc + 3) L (r ++ str) sto') :
    W p l e R s mi args below meth c H locs (sto.1 - n0) (SL sto.1 - SL n0) Q (F0 mi pc ls st0) := by
  intro T hT X
  obtain ⟨v, st₀, t, T', L', h0, X', hL', e1, e2, ⟨⟨xs1, ws1, tys1, ho, hlen, hrv, hw1, hP1, hK1, hD1, hx1⟩, hz, hk⟩, stp⟩ := hr T hT X
  obtain ⟨hK, hP, hD, hS, hw, hxt, hn⟩ := hV
  rw [h0] at hz hk
  have hv : v = xs1.head? := by injection ho
  subst hv
  have hAA : ∀ q, va_A ws H.size q → A q := fun q hq => by
    rcases hq with ⟨k2, e2, hq⟩ | hq
    · exact hD.2 k2 (q, e2) hq
    · exact hA q (Nat.le_trans hS.1 hq)
  have hvm : s.vm.Alike t.vm := by rw [← e2]; exact X'.warmed.alike
  have hV1 : WX dC dI b L0 xs0 s A w0 n0 T'.heap (locs ++ L') ws1 tys1 sto' :=
    ⟨va_K.moved hvm.symm hK1, by rw [e1]; exact hP1, hD1.weaken (fun _ q _ h => hAA q.1 h),
      ⟨Nat.le_trans hS.1 (by rw [e1]; exact hz), fun q h1 h2 => by rw [e1, hk q (Nat.lt_of_lt_of_le h1 hS.1) (fun z => h2 (hAA q z))]; exact hS.2.1 q h1 h2, fun q hq => by
        rcases List.mem_append.mp hq with h | h
        · exact hS.2.2 q h
        · exact hAA _ (hL' q h)⟩, hw1, ext_tr hxt hx1, Nat.le_trans hn hle⟩
  have kw := k T'.heap (locs ++ L') ls lv (xs1 ++ rest) ws1 tys1 hV1 hl hL (rls_ext hx1 hrl) (rvs_app hrv (rvs_ext hx1 hs))
  have hm1 := SL_mono hn
  have hm2 := SL_mono hle
  have e3 : sto.1 - n0 + (sto'.1 - sto.1) = sto'.1 - n0 := by omega
  have e4 : SL sto.1 - SL n0 + (SL sto'.1 - SL sto.1) = SL sto'.1 - SL n0 := by omega
  rw [e3, e4] at X'
  obtain ⟨t2, a1, b1⟩ := kw T' rfl X'
  rw [head_list hlen] at stp
  exact ⟨t2, stp t2 a1, b1⟩
theorem pre_go {H : Heap} {locs : List Loc} {ws : va_W} {tys : List (ClassId × FieldType)} {xs : List Value} (hV : WX dC dI b L0 xs0 s A w0 n0 H locs ws tys sto) (hX : va_X b L0 xs0 s s.heap) (hbl : b < s.heap.size) (hbA : ¬ A b) (hAO : va_AO "FasterForTheRich$Town" s) :
    ∀ U : State, U.heap = H → s.WarmedH U.vm → cPc dC dI b L0 xs0 ws tys H.size xs xs.toArray U := by
  intro U hU hW
  obtain ⟨hK, hP, hD, hS, hw, hxt, hn⟩ := hV
  refine ⟨rfl, by rw [hU]; exact hP, va_K.moved hW.alike hK, hD.weaken (fun _ _ _ _ => trivial), ?_, by rw [hU]; exact Nat.lt_of_lt_of_le hbl hS.1, va_AO.moved hW.alike hAO, by rw [hU]⟩
  rw [hU]
  exact va_X.moved hW.alike (va_X.kept hX (hS.2.1 b hbl hbA))
theorem apart_b {ws : va_W} (hD : va_D A ws) (hbA : ¬ A b) : ∀ (k q : Nat) (e : va_E), ws[k]? = some (q, e) → q ≠ b := fun k q e h hq => hbA (by rw [← hq]; exact hD.2 k (q, e) h)
theorem split_n {n : Nat} {xs : List Value} : xs = ((xs.take n).reverse).reverse ++ xs.drop n := by rw [List.reverse_reverse, List.take_append_drop]
/-- a static call -/
theorem at_cs {m o i j : Nat} {r : List Vl} (hx : p.tables.exec = Jvm.exec) (hb : c.code = cc) (hml : c.maxLocals = nL) (hts : ∀ w ∈ gw_tbl, w.before args s = true) (hown : s.vm.findClass (oS o) = some mi.cls) (hA : ∀ q, s.heap.size ≤ q → A q) (hX : va_X b L0 xs0 s s.heap) (hbl : b < s.heap.size) (hbA : ¬ A b) (hL0 : L0 < 2147483648) (hAO : va_AO "FasterForTheRich$Town" s)
    (hRm : mFr m ≤ R.frames ∧ mLo m ≤ R.locals) (hRc : nF - n0 ≤ R.cells) (hRs : SL nF - SL n0 ≤ R.slots) (hroom : okRoom m j = true) (hok : hasM mlT o i j 101 = true) (hdg : decode cc pc = .ok (.invokestatic i, 3))
    (hlen : mNA j ≤ st.length) (hcat : cats (st.drop (mNA j)) ≤ 8) (hM : MetOK l j (st.take (mNA j)).reverse sto r sto') (hle : sto.1 ≤ sto'.1) (hnF : sto'.1 ≤ nF)
    (k : At (gW p l e R s mi args below meth c Q n0) (WX dC dI b L0 xs0 s A w0 n0) mi b nL (pc + 3) L (r ++ st.drop (mNA j)) sto') : At (gW p l e R s mi args below meth c Q n0) (WX dC dI b L0 xs0 s A w0 n0) mi b nL pc L st sto := by
  intro H locs ls lv xs ws tys hV hl hL hr hs
  simp only [okRoom, Bool.and_eq_true, decide_eq_true_eq] at hroom
  obtain ⟨⟨hj, hf1⟩, hf2⟩ := hroom
  obtain ⟨w1, wl, hml2⟩ := ml_at hok
  obtain ⟨g1, g2, g3, g4, g5, g6, g7, g8⟩ := me_at hj
  simp only [okMl, Bool.and_eq_true, decide_eq_true_eq] at hml2
  obtain ⟨hst, hlk⟩ := hml2
  have hst' : mS j = true := by rw [hst]; rfl
  rw [if_neg (by decide), if_pos trivial] at hlk
  rw [if_pos hst'] at g4 g5
  have hd := hV.2.2.1
  have hmono := hV.2.2.2.2.2.2
  have hm1 := SL_mono hmono
  have hm2 := SL_mono hle
  have hm3 := SL_mono hnF
  have hys : ((xs.take (mNA j)).reverse).length = mNA j := by
    rw [List.length_reverse, List.length_take, rvs_len hs]; omega
  have hMet := hM dC dI b L0 xs0 ws tys H.size _ (rvs_rev (rvs_take (mNA j) hs)) hV.2.2.2.2.1 (apart_b hd hbA) hL0
  have hG : GoodIn gw_tbl (va_wsS (oS o) i (mY j) (cWs j)) := by
    intro w hw
    unfold va_wsS cWs at hw
    simp only [List.mem_append, List.mem_cons, List.not_mem_nil, or_false] at hw
    rcases hw with (rfl | rfl | rfl) | rfl | hw
    · exact gw_good (atW.mem hlk)
    · exact gw_good g4
    · rw [g1]; exact gw_good g3
    · exact gw_good g2
    · exact gw_good hw
  refine call_go (va_runS (cc := cc) (nL := nL) (Ts := gw_tbl) (n := mNA j) (As := (xs.take (mNA j)).reverse) (rest := xs.drop (mNA j)) ⟨hx, hb, hml, hown, hts⟩ hMet (va_cwS (ret := mR j) (bytes := mB j) (maxL := mL j) (mNA j) hts hG rfl rfl rfl ⟨by rw [g1]; exact g7.1, by rw [g1]; exact g7.2, g5⟩ ⟨Nat.le_trans hf1 hRm.1, Nat.le_trans hf2 hRm.2⟩) ⟨cPc_blind, pre_go hV hX hbl hbA hAO⟩ rfl hys hl.1 split_n (lv_room (by rw [rvs_cats (rvs_drop (mNA j) hs)]; exact hcat)) hdg ⟨by omega, by omega⟩) hV hle hA hl hL hr (rvs_drop (mNA j) hs) k
theorem rcv_at {n ci : Nat} {xs : List Value} {ws : va_W} {tys : List (ClassId × FieldType)} (h : rcv st n = some ci) (hs : rvs ws b st xs) (hw : wre ws tys b L0 xs0 sto) : 1 ≤ n ∧ ci < 6 ∧ ∃ (k q : Nat) (fs : List Value), ws[k]? = some (q, .inr (ci, fs)) ∧ (xs.take n).reverse = .ref q :: (xs.take (n - 1)).reverse := by
  unfold rcv at h
  split at h
  · rename_i a hn
    split at h
    · rename_i hc
      obtain ⟨h2, h0, hl1⟩ := hc
      cases h
      obtain ⟨x, hx1, hx2⟩ := rvs_nth (n - 1) hs hn
      obtain ⟨q, en, hq, rfl⟩ := rvl_ref hx2 h2
      have hcr := wre_at hw h2 hq
      rcases hcr with ⟨-, fs, rfl, hc6, -⟩ | ⟨z, -⟩ | ⟨z, -⟩ | ⟨z, -⟩
      · refine ⟨by omega, hc6, _, q, fs, hq, ?_⟩
        have hlt := (List.getElem?_eq_some_iff.mp hx1).1
        have : xs.take n = xs.take (n - 1) ++ [.ref q] := by
          have h3 : n = n - 1 + 1 := by omega
          rw [h3, List.take_add_one, Nat.add_sub_cancel, hx1]
          rfl
        rw [this, List.reverse_append]
        rfl
      · rw [hl1] at z; exact absurd z (by decide)
      · rw [hl1] at z; exact absurd z (by decide)
      · rw [hl1] at z; exact absurd z (by decide)
    · cases h
  · cases h
/-- a constructor's call -/
theorem at_ci {m o i j ci : Nat} {r : List Vl} (hx : p.tables.exec = Jvm.exec) (hb : c.code = cc) (hml : c.maxLocals = nL) (hts : ∀ w ∈ gw_tbl, w.before args s = true) (hown : s.vm.findClass (oS o) = some mi.cls) (hA : ∀ q, s.heap.size ≤ q → A q) (hX : va_X b L0 xs0 s s.heap) (hbl : b < s.heap.size) (hbA : ¬ A b) (hL0 : L0 < 2147483648) (hAO : va_AO "FasterForTheRich$Town" s)
    (hRm : mFr m ≤ R.frames ∧ mLo m ≤ R.locals) (hRc : nF - n0 ≤ R.cells) (hRs : SL nF - SL n0 ≤ R.slots) (hroom : okRoom m j = true) (hok : hasM mlT o i j 100 = true) (hdg : decode cc pc = .ok (.invokespecial i, 3)) (hrc : rcv st (mNA j) = some ci)
    (hlen : mNA j ≤ st.length) (hcat : cats (st.drop (mNA j)) ≤ 8) (hM : MetOK l j (st.take (mNA j)).reverse sto r sto') (hle : sto.1 ≤ sto'.1) (hnF : sto'.1 ≤ nF)
    (k : At (gW p l e R s mi args below meth c Q n0) (WX dC dI b L0 xs0 s A w0 n0) mi b nL (pc + 3) L (r ++ st.drop (mNA j)) sto') : At (gW p l e R s mi args below meth c Q n0) (WX dC dI b L0 xs0 s A w0 n0) mi b nL pc L st sto := by
  intro H locs ls lv xs ws tys hV hl hL hr hs
  simp only [okRoom, Bool.and_eq_true, decide_eq_true_eq] at hroom
  obtain ⟨⟨hj, hf1⟩, hf2⟩ := hroom
  obtain ⟨w1, wl, hml2⟩ := ml_at hok
  obtain ⟨g1, g2, g3, g4, g5, g6, g7, g8⟩ := me_at hj
  simp only [okMl, Bool.and_eq_true, decide_eq_true_eq] at hml2
  obtain ⟨hst, hlk⟩ := hml2
  have hst' : ¬ mS j = true := by rw [hst]; decide
  rw [if_pos trivial] at hlk
  simp only [Bool.and_eq_true, decide_eq_true_eq] at hlk
  obtain ⟨⟨hlk, hnm⟩, hrt⟩ := hlk
  rw [if_neg hst'] at g4 g5
  have hd := hV.2.2.1
  have hmono := hV.2.2.2.2.2.2
  have hm1 := SL_mono hmono
  have hm2 := SL_mono hle
  have hm3 := SL_mono hnF
  obtain ⟨hn1, hc6, kq, q, fs, hq, hrev⟩ := rcv_at hrc hs hV.2.2.2.2.1
  have hys : ((xs.take (mNA j - 1)).reverse).length = mNA j - 1 := by
    rw [List.length_reverse, List.length_take, rvs_len hs]; omega
  have hMet := hM dC dI b L0 xs0 ws tys H.size _ (rvs_rev (rvs_take (mNA j) hs)) hV.2.2.2.2.1 (apart_b hd hbA) hL0
  rw [hrev] at hMet
  have hcw : cWs j = Cond.code (mY j) (mB j) (mL j) none :: gw_tbl := by unfold cWs; rw [hrt]
  have hG : GoodIn gw_tbl (cWs j) := by
    intro w hw
    unfold cWs at hw
    simp only [List.mem_cons] at hw
    rcases hw with rfl | hw
    · exact gw_good g2
    · exact gw_good hw
  have hsp : xs = ((xs.take (mNA j - 1)).reverse).reverse ++ .ref q :: xs.drop (mNA j) := by
    have h1 := congrArg List.reverse hrev
    rw [List.reverse_reverse, List.reverse_cons] at h1
    calc xs = xs.take (mNA j) ++ xs.drop (mNA j) := (List.take_append_drop _ _).symm
      _ = _ := by rw [h1]; simp
  refine call_go (va_runI (cc := cc) (nL := nL) (Ts := gw_tbl) (n := mNA j - 1) (b := q) (As := (xs.take (mNA j - 1)).reverse) (rest := xs.drop (mNA j)) ⟨hx, hb, hml, hown, hts⟩ hMet (cwI (bytes := mB j) (maxL := mL j) (mNA j - 1) hts hG hcw rfl rfl (by rw [g1]; exact hts _ g3) (hts _ (atW.mem hlk)) (hts _ g4) hnm ⟨by rw [g1]; exact g7.1, by rw [g1]; exact g7.2, g5⟩ ⟨Nat.le_trans hf1 hRm.1, Nat.le_trans hf2 hRm.2⟩) ⟨cPc_blind, pre_go hV hX hbl hbA hAO⟩ rfl hys hl.1 hsp (lv_room (by rw [rvs_cats (rvs_drop (mNA j) hs)]; exact hcat)) hdg ⟨by omega, by omega⟩) hV hle hA hl hL hr (rvs_drop (mNA j) hs) k
/-- a virtual call -/
theorem at_cv {m o i j ci kind : Nat} {r : List Vl} (hx : p.tables.exec = Jvm.exec) (hb : c.code = cc) (hml : c.maxLocals = nL) (hts : ∀ w ∈ gw_tbl, w.before args s = true) (hown : s.vm.findClass (oS o) = some mi.cls) (hA : ∀ q, s.heap.size ≤ q → A q) (hX : va_X b L0 xs0 s s.heap) (hbl : b < s.heap.size) (hbA : ¬ A b) (hL0 : L0 < 2147483648) (hAO : va_AO "FasterForTheRich$Town" s)
    (hRm : mFr m ≤ R.frames ∧ mLo m ≤ R.locals) (hRc : nF - n0 ≤ R.cells) (hRs : SL nF - SL n0 ≤ R.slots) (hroom : okRoom m j = true) (hok : hasM mlT o i j kind = true) (hdg : decode cc pc = .ok (.invokevirtual i, 3)) (hrc : rcv st (mNA j) = some ci) (hk100 : kind ≠ 100) (hk101 : kind ≠ 101) (hkind : if kind = 0 then cC ci = (mY j).cls else (cis kind).contains ci = true)
    (hlen : mNA j ≤ st.length) (hcat : cats (st.drop (mNA j)) ≤ 8) (hM : MetOK l j (st.take (mNA j)).reverse sto r sto') (hle : sto.1 ≤ sto'.1) (hnF : sto'.1 ≤ nF)
    (k : At (gW p l e R s mi args below meth c Q n0) (WX dC dI b L0 xs0 s A w0 n0) mi b nL (pc + 3) L (r ++ st.drop (mNA j)) sto') : At (gW p l e R s mi args below meth c Q n0) (WX dC dI b L0 xs0 s A w0 n0) mi b nL pc L st sto := by
  intro H locs ls lv xs ws tys hV hl hL hr hs
  simp only [okRoom, Bool.and_eq_true, decide_eq_true_eq] at hroom
  obtain ⟨⟨hj, hf1⟩, hf2⟩ := hroom
  obtain ⟨w1, wl, hml2⟩ := ml_at hok
  obtain ⟨g1, g2, g3, g4, g5, g6, g7, g8⟩ := me_at hj
  simp only [okMl, Bool.and_eq_true, decide_eq_true_eq] at hml2
  obtain ⟨hst, hlk⟩ := hml2
  have hst' : ¬ mS j = true := by rw [hst]; simpa using hk101
  rw [if_neg hk100, if_neg hk101] at hlk
  rw [if_neg hst'] at g4 g5
  have hd := hV.2.2.1
  have hmono := hV.2.2.2.2.2.2
  have hm1 := SL_mono hmono
  have hm2 := SL_mono hle
  have hm3 := SL_mono hnF
  obtain ⟨hn1, hc6, kq, q, fs, hq, hrev⟩ := rcv_at hrc hs hV.2.2.2.2.1
  have hys : ((xs.take (mNA j - 1)).reverse).length = mNA j - 1 := by
    rw [List.length_reverse, List.length_take, rvs_len hs]; omega
  have hMet := hM dC dI b L0 xs0 ws tys H.size _ (rvs_rev (rvs_take (mNA j) hs)) hV.2.2.2.2.1 (apart_b hd hbA) hL0
  rw [hrev] at hMet
  have hsp : xs = ((xs.take (mNA j - 1)).reverse).reverse ++ .ref q :: xs.drop (mNA j) := by
    have h1 := congrArg List.reverse hrev
    rw [List.reverse_reverse, List.reverse_cons] at h1
    calc xs = xs.take (mNA j) ++ xs.drop (mNA j) := (List.take_append_drop _ _).symm
      _ = _ := by rw [h1]; simp
  have hrecv := va_recv hV.1 hV.2.1 (cl_at ci hc6) hq
  by_cases hk0 : kind = 0
  · rw [if_pos hk0] at hlk hkind
    simp only [Bool.and_eq_true] at hlk
    obtain ⟨hlk, hsel⟩ := hlk
    have hG : GoodIn gw_tbl (wsV (oS o) i (mY j).cls (mY j) (cWs j)) := by
      intro w hw
      unfold wsV cWs at hw
      simp only [List.mem_append, List.mem_cons, List.not_mem_nil, or_false] at hw
      rcases hw with (rfl | rfl | rfl | rfl) | rfl | hw
      · exact gw_good (atW.mem hlk)
      · exact gw_good g4
      · exact gw_good (atW.mem hsel)
      · rw [g1]; exact gw_good g3
      · exact gw_good g2
      · exact gw_good hw
    refine call_go (va_runV (cc := cc) (nL := nL) (Ts := gw_tbl) (C := (mY j).cls) (n := mNA j - 1) (b := q) (As := (xs.take (mNA j - 1)).reverse) (rest := xs.drop (mNA j)) ⟨hx, hb, hml, hown, hts⟩ hMet (cwV (ret := mR j) (bytes := mB j) (maxL := mL j) (mNA j - 1) hts hG rfl rfl rfl ⟨rfl, by rw [g1]; exact g7.1, by rw [g1]; exact g7.2, g5⟩ ⟨Nat.le_trans hf1 hRm.1, Nat.le_trans hf2 hRm.2⟩) ⟨cPc_blind, by rw [← hkind]; exact hrecv, pre_go hV hX hbl hbA hAO⟩ rfl hys hl.1 hsp (lv_room (by rw [rvs_cats (rvs_drop (mNA j) hs)]; exact hcat)) hdg ⟨by omega, by omega⟩) hV hle hA hl hL hr (rvs_drop (mNA j) hs) k
  · rw [if_neg hk0] at hlk hkind
    simp only [Bool.and_eq_true, decide_eq_true_eq] at hlk
    obtain ⟨⟨⟨hlk, hsame⟩, hall⟩, hlenc⟩ := hlk
    have hsel : Cond.selects (cC ci) (xU kind (mY j)) (mY j) ∈ gw_tbl := by
      have hci : ci ∈ cis kind := by simpa using hkind
      obtain ⟨t, ht⟩ := List.getElem?_of_mem hci
      have htl := (List.getElem?_eq_some_iff.mp ht).1
      obtain ⟨z, hz⟩ : ∃ z, (wl.drop 1)[t]? = some z := ⟨_, List.getElem?_eq_getElem (by omega)⟩
      have hzip : ((cis kind).zip (wl.drop 1))[t]? = some (ci, z) := by
        rw [List.getElem?_zip_eq_some]
        exact ⟨ht, hz⟩
      exact atW.mem (List.all_eq_true.mp hall _ (List.mem_of_getElem? hzip))
    have hG : GoodIn gw_tbl (va_wsU (oS o) i (cC ci) (mY j).cls (xU kind (mY j)) (mY j) (cWs j)) := by
      intro w hw
      unfold va_wsU cWs at hw
      simp only [List.mem_append, List.mem_cons, List.not_mem_nil, or_false] at hw
      rcases hw with (rfl | rfl | rfl | rfl | rfl) | rfl | hw
      · exact gw_good (atW.mem hlk)
      · exact gw_good (atW.mem hsame)
      · exact gw_good hsel
      · exact gw_good g4
      · rw [g1]; exact gw_good g3
      · exact gw_good g2
      · exact gw_good hw
    refine call_go (va_runU (cc := cc) (nL := nL) (Ts := gw_tbl) (C := cC ci) (owner := (mY j).cls) (x := xU kind (mY j)) (n := mNA j - 1) (b := q) (As := (xs.take (mNA j - 1)).reverse) (rest := xs.drop (mNA j)) ⟨hx, hb, hml, hown, hts⟩ hMet (va_cwU (ret := mR j) (bytes := mB j) (maxL := mL j) (mNA j - 1) hts hG rfl rfl rfl rfl ⟨by rw [g1]; exact g7.1, by rw [g1]; exact g7.2, g5⟩ ⟨Nat.le_trans hf1 hRm.1, Nat.le_trans hf2 hRm.2⟩) ⟨cPc_blind, hrecv, pre_go hV hX hbl hbA hAO⟩ rfl hys hl.1 hsp (lv_room (by rw [rvs_cats (rvs_drop (mNA j) hs)]; exact hcat)) hdg ⟨by omega, by omega⟩) hV hle hA hl hL hr (rvs_drop (mNA j) hs) k
end CALL
end
section
/-! A RUN OF THE SMALL MACHINE IS A RUN OF THE BIG ONE. -/
theorem iB_eq (f : Int32 → Int32 → Int32) (x y : Int32) : (f x y).toInt = iB f x.toInt y.toInt := by
  unfold iB; rw [Int32.ofInt_toInt, Int32.ofInt_toInt]
theorem lB_eq (f : Int64 → Int64 → Int64) (x y : Int64) : (f x y).toInt = lB f x.toInt y.toInt := by
  unfold lB; rw [Int64.ofInt_toInt, Int64.ofInt_toInt]
theorem c_eq (x y : Int32) : x = y ↔ cmpB .eq x.toInt y.toInt = true := by
  unfold cmpB; rw [decide_eq_true_iff, Int32.toInt_inj]
theorem c_ne (x y : Int32) : ¬ x = y ↔ cmpB .ne x.toInt y.toInt = true := by
  unfold cmpB; rw [decide_eq_true_iff, ne_eq, Int32.toInt_inj]
theorem c_lt (x y : Int32) : x < y ↔ cmpB .lt x.toInt y.toInt = true := by
  unfold cmpB; rw [decide_eq_true_iff, Int32.lt_iff_toInt_lt]
theorem c_ge (x y : Int32) : y ≤ x ↔ cmpB .ge x.toInt y.toInt = true := by
  unfold cmpB; rw [decide_eq_true_iff, Int32.le_iff_toInt_le]
theorem c_gt (x y : Int32) : y < x ↔ cmpB .gt x.toInt y.toInt = true := by
  unfold cmpB; rw [decide_eq_true_iff, Int32.lt_iff_toInt_lt]
theorem c_le (x y : Int32) : x ≤ y ↔ cmpB .le x.toInt y.toInt = true := by
  unfold cmpB; rw [decide_eq_true_iff, Int32.le_iff_toInt_le]
theorem bm32 {n : Int} (h1 : -2147483648 ≤ n) (h2 : n < 2147483648) : Int.bmod n 4294967296 = n := by
  simp only [Int.bmod]; split <;> omega
theorem bm8 {n : Int} (h1 : -128 ≤ n) (h2 : n ≤ 127) : Int.bmod n 256 = n := by
  simp only [Int.bmod]; split <;> omega
theorem bm16 {n : Int} (h1 : -32768 ≤ n) (h2 : n ≤ 32767) : Int.bmod n 65536 = n := by
  simp only [Int.bmod]; split <;> omega
theorem okE_spec {m o pc : Nat} {bs : ByteArray} {en : Ent} (h : okE m o bs pc en = true) (hn : isNu en.1 = false) : decode bs pc = .ok (en.1, en.2.1) ∧ en.2.1 = insLen en.1 en.2.1 ∧ okX m o en = true := by
  unfold okE at h
  rw [hn, Bool.false_or] at h
  simp only [Bool.and_eq_true, decide_eq_true_eq] at h
  exact ⟨h.1.1, h.1.2, h.2⟩
theorem ko_at {o i : Nat} {v : Int} (h : hasK koT o i v = true) : Cond.constant (oS o) i (Int32.ofInt v) ∈ gw_tbl ∧ (Int32.ofInt v).toInt = v := by
  unfold hasK at h
  obtain ⟨q, hq, hc⟩ := List.any_eq_true.mp h
  have hok := koT_ok q hq
  obtain ⟨o', i', v', w⟩ := q
  simp only [Bool.and_eq_true, beq_iff_eq, decide_eq_true_eq] at hc
  obtain ⟨⟨rfl, rfl⟩, rfl⟩ := hc
  simp only [okKo, Bool.and_eq_true, decide_eq_true_eq] at hok
  exact ⟨atW.mem hok.1, hok.2⟩
theorem kl_at {o i : Nat} {v : Int} (h : hasK klT o i v = true) : Cond.constantLong (oS o) i (Int64.ofInt v) ∈ gw_tbl ∧ (Int64.ofInt v).toInt = v := by
  unfold hasK at h
  obtain ⟨q, hq, hc⟩ := List.any_eq_true.mp h
  have hok := klT_ok q hq
  obtain ⟨o', i', v', w⟩ := q
  simp only [Bool.and_eq_true, beq_iff_eq, decide_eq_true_eq] at hc
  obtain ⟨⟨rfl, rfl⟩, rfl⟩ := hc
  simp only [okKl, Bool.and_eq_true, decide_eq_true_eq] at hok
  exact ⟨atW.mem hok.1, hok.2⟩
theorem mi_at {o i : Nat} (h : hasI miT o i = true) : Cond.methodLink (oS o) i Lib.Math.min.name ∈ gw_tbl := by
  unfold hasI at h
  obtain ⟨q, hq, hc⟩ := List.any_eq_true.mp h
  have hok := miT_ok q hq
  obtain ⟨o', i', w⟩ := q
  simp only [Bool.and_eq_true, beq_iff_eq] at hc
  obtain ⟨rfl, rfl⟩ := hc
  exact atW.mem hok
theorem mx_at {o i : Nat} (h : hasI mxT o i = true) : Cond.methodLink (oS o) i Lib.Math.max.name ∈ gw_tbl := by
  unfold hasI at h
  obtain ⟨q, hq, hc⟩ := List.any_eq_true.mp h
  have hok := mxT_ok q hq
  obtain ⟨o', i', w⟩ := q
  simp only [Bool.and_eq_true, beq_iff_eq] at hc
  obtain ⟨rfl, rfl⟩ := hc
  exact atW.mem hok
/-- what is known all along a method's run -/
def CX (p : Program) (R : Room) (s : State) (mi : MethodId) (args : Array Value) (meth : Method) (c : Code) (m n0 nF b L0 : Nat) (xs0 : Nat → Int32) (A : Nat → Prop) : Prop :=
  p.tables.exec = Jvm.exec ∧ c.code = mB m ∧ c.maxLocals = mL m ∧ (∀ w ∈ gw_tbl, w.before args s = true) ∧ s.vm.findClass (oS (mO m)) = some mi.cls ∧ (iniT.contains m = true → meth.name = "<init>") ∧ (mFr m ≤ R.frames ∧ mLo m ≤ R.locals) ∧ (∀ q, s.heap.size ≤ q → A q) ∧ va_X b L0 xs0 s s.heap ∧ b < s.heap.size ∧ ¬ A b ∧ L0 < 2147483648 ∧ va_AO "FasterForTheRich$Town" s ∧ nF - n0 ≤ R.cells ∧ SL nF - SL n0 ≤ R.slots
section MM
variable {G : Heap → List Loc → Sto → JFrame → Prop} {V : Heap → List Loc → va_W → List (ClassId × FieldType) → Sto → Prop} {mi : MethodId} {b nL nF : Nat} {pc : Nat} {L st : List Vl} {sto : Sto}
theorem at_mm2 {r2 : Int} (row : ∀ H locs ls rest (x y : Int32), ls.size = nL → (rest.map fun v => v.category).sum ≤ 8 → G H locs sto (F0 mi (pc + 3) ls (.int (if r2 = 1 then (if y < x then y else x) else (if x < y then y else x)) :: rest)) → G H locs sto (F0 mi pc ls (.int y :: .int x :: rest))) (h : Nx G V mi b nL nF sto (mmA r2 pc L st)) : At G V mi b nL pc L st sto := by
  unfold mmA at h
  split at h
  · split at h
    · rename_i hc
      intro H locs ls lv xs ws tys hV hl hL hr hs
      obtain ⟨y', ys, rfl, hy, hs⟩ := rvs_i hs
      obtain ⟨x', zs, rfl, hx, hs⟩ := rvs_i hs
      refine row _ _ _ _ _ _ hl.1 (by rw [rvs_cats hs]; exact hc) (h H locs ls lv _ ws tys hV hl hL hr ⟨rvs_ii ?_, hs⟩)
      rw [← hx, ← hy]
      by_cases h0 : r2 = 1
      · rw [if_pos h0, if_pos h0]
        by_cases h1 : y' < x'
        · rw [if_pos h1, if_pos (Int32.lt_iff_toInt_lt.mp h1)]
        · rw [if_neg h1, if_neg (fun h2 => h1 (Int32.lt_iff_toInt_lt.mpr h2))]
      · rw [if_neg h0, if_neg h0]
        by_cases h1 : x' < y'
        · rw [if_pos h1, if_pos (Int32.lt_iff_toInt_lt.mp h1)]
        · rw [if_neg h1, if_neg (fun h2 => h1 (Int32.lt_iff_toInt_lt.mpr h2))]
    · exact (show False from h).elim
  · exact (show False from h).elim
end MM
section STEP
variable {p : Program} {l : Launch} {e : Env} {R : Room} {s : State} {mi : MethodId} {args : Array Value} {below : List Frame} {meth : Method} {c : Code} {Q : State → Prop} {n0 : Nat}
variable {dC : Nat → ClassId} {dI : Nat → Nat → Nat} {b L0 : Nat} {xs0 : Nat → Int32} {A : Nat → Prop} {w0 : va_W} {nF m : Nat} {pc : Nat} {L st : List Vl} {sto : Sto}
set_option maxHeartbeats 4000000 in
theorem step_all {en : Ent} (X : CX p R s mi args meth c m n0 nF b L0 xs0 A) (hcN : sto.1 ≤ nF) (hnN : n0 ≤ sto.1) (hok : okE m (mO m) (mB m) pc en = true)
    (h : Nx (gW p l e R s mi args below meth c Q n0) (WX dC dI b L0 xs0 s A w0 n0) mi b (mL m) nF sto (act m en pc L st)) : At (gW p l e R s mi args below meth c Q n0) (WX dC dI b L0 xs0 s A w0 n0) mi b (mL m) pc L st sto := by
  obtain ⟨hx, hb, hml, hts, hown, hini, hRm, hA, hX, hbl, hbA, hL0, hAO, hRc, hRs⟩ := X
  obtain ⟨i, len, r1, r2⟩ := en
  have hs2 := SL_mono hcN
  have hs1 := SL_mono hnN
  cases i
  case aconst_null => exact (show False from h).elim
  all_goals obtain ⟨hd, hlen, hk⟩ := okE_spec hok rfl
  all_goals dsimp only at hd hlen
  all_goals try (dsimp only [insLen] at hlen; subst hlen)
  case iload_n n =>
    exact at_ld (by decide) (fun ws v x H locs ls rest hv hr hl k => by
      obtain ⟨v1, v2⟩ := v
      dsimp only at hv; subst hv
      obtain ⟨y, rfl, -⟩ := rvl_int hr
      exact lv_iload_n hx hb hd rfl hl k) h
  case iload n =>
    exact at_ld (by decide) (fun ws v x H locs ls rest hv hr hl k => by
      obtain ⟨v1, v2⟩ := v
      dsimp only at hv; subst hv
      obtain ⟨y, rfl, -⟩ := rvl_int hr
      exact lv_iload hx hb hd hl k) h
  case lload_n n =>
    exact at_ld (by decide) (fun ws v x H locs ls rest hv hr hl k => by
      obtain ⟨v1, v2⟩ := v
      dsimp only at hv; subst hv
      obtain ⟨y, rfl, -⟩ := rvl_long hr
      exact lv_lload_n hx hb hd rfl hl k) h
  case lload n =>
    exact at_ld (by decide) (fun ws v x H locs ls rest hv hr hl k => by
      obtain ⟨v1, v2⟩ := v
      dsimp only at hv; subst hv
      obtain ⟨y, rfl, -⟩ := rvl_long hr
      exact lv_lload hx hb hd hl k) h
  case aload_n n =>
    exact at_ld (by decide) (fun ws v x H locs ls rest hv hr hl k => by
      rcases hr with ⟨hv2, -⟩ | ⟨hv2, -⟩ | ⟨-, ⟨-, rfl⟩ | ⟨-, rfl⟩ | ⟨a, q, en, -, -, rfl⟩⟩
      · rw [hv] at hv2; exact absurd hv2 (by decide)
      · rw [hv] at hv2; exact absurd hv2 (by decide)
      · exact lv_aload_nN hx hb hd rfl hl k
      · exact lv_aload_n hx hb hd rfl hl k
      · exact lv_aload_n hx hb hd rfl hl k) h
  case aload n =>
    exact at_ld (by decide) (fun ws v x H locs ls rest hv hr hl k => by
      rcases hr with ⟨hv2, -⟩ | ⟨hv2, -⟩ | ⟨-, ⟨-, rfl⟩ | ⟨-, rfl⟩ | ⟨a, q, en, -, -, rfl⟩⟩
      · rw [hv] at hv2; exact absurd hv2 (by decide)
      · rw [hv] at hv2; exact absurd hv2 (by decide)
      · exact lv_aloadN hx hb hd hl k
      · exact lv_aload hx hb hd hl k
      · exact lv_aload hx hb hd hl k) h
  case istore_n n =>
    exact at_st (fun ws v x lv H locs ls rest hv hr hl hn k => by
      obtain ⟨v1, v2⟩ := v
      dsimp only at hv; subst hv
      obtain ⟨y, rfl, -⟩ := rvl_int hr
      exact lv_istore_n hx hb hd rfl hl hn rfl k) h
  case istore n =>
    exact at_st (fun ws v x lv H locs ls rest hv hr hl hn k => by
      obtain ⟨v1, v2⟩ := v
      dsimp only at hv; subst hv
      obtain ⟨y, rfl, -⟩ := rvl_int hr
      exact lv_istore hx hb hd hl hn rfl k) h
  case astore_n n =>
    exact at_st (fun ws v x lv H locs ls rest hv hr hl hn k => by
      rcases hr with ⟨hv2, -⟩ | ⟨hv2, -⟩ | ⟨-, ⟨-, rfl⟩ | ⟨-, rfl⟩ | ⟨a, q, en, -, -, rfl⟩⟩
      · rw [hv] at hv2; exact absurd hv2 (by decide)
      · rw [hv] at hv2; exact absurd hv2 (by decide)
      · exact lv_astore_nN hx hb hd rfl hl hn rfl k
      · exact lv_astore_n hx hb hd rfl hl hn rfl k
      · exact lv_astore_n hx hb hd rfl hl hn rfl k) h
  case lstore_n n =>
    exact at_st2 (fun x lv H locs ls rest hl hn k => lv_lstore_n hx hb hd rfl hl hn rfl k) h
  case lstore n =>
    exact at_st2 (fun x lv H locs ls rest hl hn k => lv_lstore hx hb hd hl hn rfl k) h
  case iconst n =>
    have h : Nx _ _ _ _ _ _ _ (if -1 ≤ n ∧ n ≤ 5 then goA (pc + 1) L ((1, n) :: st) else stk) := h
    split at h
    · exact at_pi (v := Int32.ofInt n) (by rw [Int32.toInt_ofInt]; exact bm32 (by omega) (by omega)) (fun H locs ls rest k => lv_iconst hx hb hd rfl k) h
    · exact (show False from h).elim
  case bipush n =>
    have h : Nx _ _ _ _ _ _ _ (if -128 ≤ n ∧ n ≤ 127 then goA (pc + 2) L ((1, n) :: st) else stk) := h
    split at h
    · exact at_pi (v := (Int8.ofInt n).toInt32) (by rw [Int8.toInt_toInt32, Int8.toInt_ofInt]; exact bm8 (by omega) (by omega)) (fun H locs ls rest k => lv_bipush hx hb hd rfl k) h
    · exact (show False from h).elim
  case sipush n =>
    have h : Nx _ _ _ _ _ _ _ (if -32768 ≤ n ∧ n ≤ 32767 then goA (pc + 3) L ((1, n) :: st) else stk) := h
    split at h
    · exact at_pi (v := (Int16.ofInt n).toInt32) (by rw [Int16.toInt_toInt32, Int16.toInt_ofInt]; exact bm16 (by omega) (by omega)) (fun H locs ls rest k => lv_sipush hx hb hd rfl k) h
    · exact (show False from h).elim
  case ldc i =>
    obtain ⟨hw, hv⟩ := ko_at (show hasK koT (mO m) i r2 = true from hk)
    exact at_pi hv (fun H locs ls rest k => lv_ldc hx hb hown (hts _ hw) hd k) h
  case ldc_w i =>
    obtain ⟨hw, hv⟩ := ko_at (show hasK koT (mO m) i r2 = true from hk)
    exact at_pi hv (fun H locs ls rest k => lv_ldcw hx hb hown (hts _ hw) hd k) h
  case ldc2_w i =>
    obtain ⟨hw, hv⟩ := kl_at (show hasK klT (mO m) i r2 = true from hk)
    exact at_pl hv (fun H locs ls rest k => lv_ldc2 hx hb hown (hts _ hw) hd k) h
  case lconst n =>
    exact at_pl (v := Int64.ofNat n.val) (by have : ∀ n : Fin 2, (Int64.ofNat n.val).toInt = (n.val : Int) := by decide
                                             exact this n) (fun H locs ls rest k => lv_lconst hx hb hd rfl k) h
  case iadd => exact at_a2 (g := fun x y => x + y) (fun x y => Int32.toInt_add x y) (fun H locs ls rest x y k => lv_iadd hx hb hd k) h
  case isub => exact at_a2 (g := fun x y => x - y) (fun x y => Int32.toInt_sub x y) (fun H locs ls rest x y k => lv_isub hx hb hd k) h
  case imul => exact at_a2 (g := fun x y => x * y) (fun x y => Int32.toInt_mul x y) (fun H locs ls rest x y k => lv_imul hx hb hd k) h
  case iand => exact at_a2 (g := fun x y => x &&& y) (fun x y => iB_eq _ x y) (fun H locs ls rest x y k => lv_iand hx hb hd k) h
  case ior => exact at_a2 (g := fun x y => x ||| y) (fun x y => iB_eq _ x y) (fun H locs ls rest x y k => lv_ior hx hb hd k) h
  case ishl => exact at_a2 (g := fun x y => x <<< (y &&& 31)) (fun x y => iB_eq (fun x y => x <<< (y &&& 31)) x y) (fun H locs ls rest x y k => lv_ishl hx hb hd k) h
  case ishr => exact at_a2 (g := fun x y => x >>> (y &&& 31)) (fun x y => iB_eq (fun x y => x >>> (y &&& 31)) x y) (fun H locs ls rest x y k => lv_ishr hx hb hd k) h
  case iushr => exact at_a2 (g := fun x y => (x.toUInt32 >>> (y.toUInt32 &&& Int32.toUInt32 31)).toInt32) (fun x y => iB_eq (fun x y => (x.toUInt32 >>> (y.toUInt32 &&& Int32.toUInt32 31)).toInt32) x y) (fun H locs ls rest x y k => lv_iushr hx hb hd rfl k) h
  case idiv => exact at_a2n (g := fun x y => x / y) (fun x y => iB_eq _ x y) (fun H locs ls rest x y hne k => lv_idiv hx hb hd hne k) h
  case irem => exact at_a2n (g := fun x y => x - x / y * y) (fun x y => iB_eq (fun x y => x - x / y * y) x y) (fun H locs ls rest x y hne k => lv_irem hx hb hd hne k) h
  case ineg => exact at_a1 (g := fun x => -x) (fun x => Int32.toInt_neg x) (fun H locs ls rest x k => lv_ineg hx hb hd k) h
  case ladd => exact at_l2 (g := fun x y => x + y) (fun x y => Int64.toInt_add x y) (fun H locs ls rest x y k => lv_ladd hx hb hd k) h
  case lsub => exact at_l2 (g := fun x y => x - y) (fun x y => Int64.toInt_sub x y) (fun H locs ls rest x y k => lv_lsub hx hb hd k) h
  case lmul => exact at_l2 (g := fun x y => x * y) (fun x y => Int64.toInt_mul x y) (fun H locs ls rest x y k => lv_lmul hx hb hd k) h
  case ldiv => exact at_l2n (g := fun x y => x / y) (fun x y => lB_eq _ x y) (fun H locs ls rest x y hne k => lv_ldiv hx hb hd hne k) h
  case lrem => exact at_l2n (g := fun x y => x - x / y * y) (fun x y => lB_eq (fun x y => x - x / y * y) x y) (fun H locs ls rest x y hne k => lv_lrem hx hb hd hne k) h
  case lcmp => exact at_lc (fun H locs ls rest x y k => W.lcmp hx hb hd k) h
  case i2l => exact at_il (fun H locs ls rest x k => lv_i2l hx hb hd rfl k) h
  case iinc i n => exact at_inc (fun hl3 x lv k H locs ls rest hk2 hh hn kk => lv_iinc hx hb hd hh hk2 rfl hn rfl kk) h
  case dup => exact at_dp (fun H locs ls rest x hc k => lv_dup hx hb hd hc k) h
  case dup2 => exact at_d2 (fun H locs ls rest x hc k => lv_dup2_2 hx hb hd hc k) (fun H locs ls rest x y hc hc2 k => lv_dup2_11 hx hb hd hc hc2 k) h
  case goto off => exact at_jmp (fun tgt H locs ls rest ht k => lv_goto hx hb hd ht k) h
  case ifCond cn off =>
    cases cn
    case eq => exact at_if (P := fun x => x = 0) (fun x => c_eq x 0) (fun tgt H locs ls rest x ht kt kf => lv_if_eq hx hb hd ht kt kf) h
    case ne => exact at_if (P := fun x => ¬ x = 0) (fun x => c_ne x 0) (fun tgt H locs ls rest x ht kt kf => lv_if_ne hx hb hd ht kt (fun q => kf (fun z => z q))) h
    case lt => exact at_if (P := fun x => x < 0) (fun x => c_lt x 0) (fun tgt H locs ls rest x ht kt kf => lv_if_lt hx hb hd ht kt kf) h
    case ge => exact at_if (P := fun x => 0 ≤ x) (fun x => c_ge x 0) (fun tgt H locs ls rest x ht kt kf => lv_if_ge hx hb hd ht kt kf) h
    case gt => exact at_if (P := fun x => 0 < x) (fun x => c_gt x 0) (fun tgt H locs ls rest x ht kt kf => lv_if_gt hx hb hd ht kt kf) h
    case le => exact at_if (P := fun x => x ≤ 0) (fun x => c_le x 0) (fun tgt H locs ls rest x ht kt kf => lv_if_le hx hb hd ht kt kf) h
  case if_icmp cn off =>
    cases cn
    case eq => exact at_ic (P := fun x y => x = y) (fun x y => c_eq x y) (fun tgt H locs ls rest x y ht kt kf => lv_icmp_eq hx hb hd ht kt kf) h
    case ne => exact at_ic (P := fun x y => ¬ x = y) (fun x y => c_ne x y) (fun tgt H locs ls rest x y ht kt kf => lv_icmp_ne hx hb hd ht kt (fun q => kf (fun z => z q))) h
    case lt => exact at_ic (P := fun x y => x < y) (fun x y => c_lt x y) (fun tgt H locs ls rest x y ht kt kf => lv_icmp_lt hx hb hd ht kt kf) h
    case ge => exact at_ic (P := fun x y => y ≤ x) (fun x y => c_ge x y) (fun tgt H locs ls rest x y ht kt kf => lv_icmp_ge hx hb hd ht kt kf) h
    case gt => exact at_ic (P := fun x y => y < x) (fun x y => c_gt x y) (fun tgt H locs ls rest x y ht kt kf => lv_icmp_gt hx hb hd ht kt kf) h
    case le => exact at_ic (P := fun x y => x ≤ y) (fun x y => c_le x y) (fun tgt H locs ls rest x y ht kt kf => lv_icmp_le hx hb hd ht kt kf) h
  case tableswitch dflt lo hi offs => exact at_ts (fun tgt H locs ls rest x ht hc k => lv_tableOut hx hb hd hc ht k) (fun tgt off H locs ls rest x ht h1 h2 ho k => lv_tableIn hx hb hd h1 h2 ho ht k) h
  case lookupswitch dflt ps =>
    have hk : (ps.toList.zip (ps.toList.drop 1)).all (fun (a, next) => decide (a.1 < next.1)) = true := hk
    exact at_lk (fun tgt off H locs ls rest x ht ho k => lv_lookup hx hb hd hk ho ht k) h
  case getfield i =>
    exact at_gf (o := mO m) hx hb hts hown hk hd h
  case putfield i =>
    have hk : (cis r1).all (fun ci => has3 flT (mO m) i ci r2.toNat && ((cT ci r2.toNat).2.2.2 == false || (iniT.contains m && decide ((cT ci r2.toNat).1 = oS (mO m))))) = true := hk
    have hk1 : (cis r1).all (fun ci => has3 flT (mO m) i ci r2.toNat) = true := List.all_eq_true.mpr fun ci hc => (Bool.and_eq_true _ _ ▸ List.all_eq_true.mp hk ci hc).1
    have hk2 : ∀ ci ∈ cis r1, (cT ci r2.toNat).2.2.2 = true → meth.name = "<init>" ∧ (cT ci r2.toNat).1 = oS (mO m) := by
      intro ci hc hf
      have := List.all_eq_true.mp hk ci hc
      simp only [Bool.and_eq_true, Bool.or_eq_true, beq_iff_eq, decide_eq_true_eq] at this
      rcases this.2 with h0 | h0
      · rw [hf] at h0; cases h0
      · exact ⟨hini h0.1, h0.2⟩
    exact at_pf (o := mO m) hx hb hts hown hk1 hk2 hd h
  case iaload => exact at_ir hx hb hX hbl hbA hd h
  case baload => exact at_br hx hb hd h
  case aaload => exact at_ar hx hb hd h
  case iastore => exact at_iw hx hb hd h
  case bastore => exact at_bw hx hb hd h
  case aastore => exact at_aw hx hb hd h
  case arraylength => exact at_ln hx hb hX hbl hbA hL0 hd h
  case new i => exact at_new (o := mO m) hx hb hts hown hA hk hRc hRs hd h
  case newarray t =>
    cases t
    case int => exact at_na (ty := .int) rfl (Or.inl ⟨rfl, rfl⟩) hx hb hts hA (atW.mem acI_ok) hRc hRs hd h
    case boolean => exact at_na (ty := .boolean) rfl (Or.inr ⟨rfl, rfl⟩) hx hb hts hA (atW.mem acZ_ok) hRc hRs hd h
    all_goals exact (show False from h).elim
  case anewarray i => exact at_nr (o := mO m) hx hb hts hown hA hAO hk hRc hRs hd h
  case invokestatic i =>
    by_cases h0 : r2 = 0
    · have h : Nx _ _ _ _ _ _ _ (if r2 = 0 then caA r1 pc L st else mmA r2 pc L st) := h
      rw [if_pos h0] at h
      unfold caA at h
      split at h
      · exact (show False from h).elim
      · exact (show False from h).elim
    · have h : Nx _ _ _ _ _ _ _ (if r2 = 0 then caA r1 pc L st else mmA r2 pc L st) := h
      rw [if_neg h0] at h
      have hk : (if r2 = 0 then okRoom m r1 && hasM mlT (mO m) i r1 101 else (if r2 = 1 then hasI miT (mO m) i else hasI mxT (mO m) i) && decide (1 ≤ mFr m) && decide (21 ≤ mLo m)) = true := hk
      rw [if_neg h0] at hk
      simp only [Bool.and_eq_true, decide_eq_true_eq] at hk
      obtain ⟨⟨hk1, hk2⟩, hk3⟩ := hk
      refine at_mm2 (fun H locs ls rest x y hsz hc k => ?_) h
      by_cases h1 : r2 = 1
      · rw [if_pos h1] at k hk1
        exact va_mmin hx hb (by rw [hml, hsz]) hown (hts _ (mi_at hk1)) (hts _ (atW.mem miS_ok)) (hts _ (atW.mem maI_ok)) (hts _ (atW.mem miC_ok)) (Nat.le_trans hk2 hRm.1) (by have := Nat.le_trans hk3 hRm.2; omega) (by omega) (by omega) hd k
      · rw [if_neg h1] at k hk1
        exact va_mmax hx hb (by rw [hml, hsz]) hown (hts _ (mx_at hk1)) (hts _ (atW.mem mxS_ok)) (hts _ (atW.mem maI_ok)) (hts _ (atW.mem mxC_ok)) (Nat.le_trans hk2 hRm.1) (by have := Nat.le_trans hk3 hRm.2; omega) (by omega) (by omega) hd k
  case invokespecial i =>
    have h : Nx _ _ _ _ _ _ _ (if r2 = 1 then oiA pc L st else csA r1 pc L st) := h
    by_cases h0 : r2 = 1
    · rw [if_pos h0] at h
      have hk : (if r2 = 1 then hasI obT (mO m) i && decide (1 ≤ mFr m) && decide (12 ≤ mLo m) else okRoom m r1 && hasM mlT (mO m) i r1 100) = true := hk
      rw [if_pos h0] at hk
      simp only [Bool.and_eq_true, decide_eq_true_eq] at hk
      obtain ⟨⟨hk1, hk2⟩, hk3⟩ := hk
      exact at_oi (o := mO m) hx hb hml hts hown hk1 (Nat.le_trans hk2 hRm.1) (Nat.le_trans hk3 hRm.2) hd h
    · rw [if_neg h0] at h
      unfold csA at h
      split at h
      · unfold caA at h
        split at h
        · exact (show False from h).elim
        · exact (show False from h).elim
      · exact (show False from h).elim
  case invokevirtual i =>
    have h : Nx _ _ _ _ _ _ _ (cvA r1 r2 pc L st) := h
    unfold cvA at h
    split at h
    · rename_i ci hci
      by_cases hc : (if r2 = 0 then cC ci = (mY r1).cls else (cis r2.toNat).contains ci = true)
      · rw [if_pos hc] at h
        unfold caA at h
        by_cases hc2 : mNA r1 ≤ st.length ∧ cats (st.drop (mNA r1)) ≤ 8 ∧ cats (st.take (mNA r1)) ≤ mL r1
        · rw [if_pos hc2] at h
          exact (show False from h).elim
        · rw [if_neg hc2] at h
          exact (show False from h).elim
      · rw [if_neg hc] at h
        exact (show False from h).elim
    · exact (show False from h).elim
  case ireturn =>
    have h : Nx _ _ _ _ _ _ _ (reI m L st) := h
    unfold reI at h
    split at h
    · split at h
      · exact (show False from h).elim
      · exact (show False from h).elim
    · exact (show False from h).elim
  case lreturn =>
    have h : Nx _ _ _ _ _ _ _ (reL m L st) := h
    unfold reL at h
    split at h
    · split at h
      · exact (show False from h).elim
      · exact (show False from h).elim
    · exact (show False from h).elim
  case return_ =>
    have h : Nx _ _ _ _ _ _ _ (reV m L st) := h
    unfold reV at h
    split at h
    · split at h
      · exact (show False from h).elim
      · exact (show False from h).elim
    · exact (show False from h).elim
  all_goals exact (show False from h).elim
end STEP
end
section
/-! THE WHOLE RUN: out of a run of the small machine, a contract of the method. -/
theorem run_mono {lo hi : Nat} : ∀ (f m pc : Nat) (L st : List Vl) (sto : Sto) (r : List Vl) (sto' : Sto), run lo hi f m pc L st sto = some (r, sto') → sto.1 ≤ sto'.1 := by
  intro f
  induction f with
  | zero => intro m pc L st sto r sto' h; cases h
  | succ f ih =>
    intro m pc L st sto r sto' h
    unfold run at h
    split at h
    · cases h
    · split at h
      · exact ih _ _ _ _ _ _ _ h
      · split at h
        · exact ih _ _ _ _ _ _ _ h
        · cases h
      · split at h
        · have := ih _ _ _ _ _ _ _ h
          exact this
        · cases h
      · split at h
        · have := ih _ _ _ _ _ _ _ h
          dsimp only at this
          omega
        · cases h
      · split at h
        · rename_i hr
          exact Nat.le_trans (ih _ _ _ _ _ _ _ hr) (ih _ _ _ _ _ _ _ h)
        · cases h
      · cases h; exact Nat.le_refl _
      · split at h
        · exact ih _ _ _ _ _ _ _ h
        · cases h
      · split at h
        · exact ih _ _ _ _ _ _ _ h
        · cases h
      · split at h
        · exact ih _ _ _ _ _ _ _ h
        · exact ih _ _ _ _ _ _ _ h
      · cases h
def isInv (i : Instr) : Bool := match i with
  | .invokestatic _ => true
  | .invokespecial _ => true
  | .invokevirtual _ => true
  | _ => false
def isRet (i : Instr) : Bool := match i with
  | .ireturn => true
  | .lreturn => true
  | .return_ => true
  | _ => false
set_option maxHeartbeats 4000000 in
theorem act_tag {m pc : Nat} {en : Ent} {L st : List Vl} : ((act m en pc L st).1 = 5 → isInv en.1 = true) ∧ ((act m en pc L st).1 = 6 → isRet en.1 = true) := by
  obtain ⟨i, len, r1, r2⟩ := en
  cases i
  case invokestatic => exact ⟨fun _ => rfl, fun h => by
    have h : (if r2 = 0 then caA r1 pc L st else mmA r2 pc L st).1 = 6 := h
    unfold caA mmA at h
    repeat' split at h
    all_goals exact absurd h (by simp [goA, stk])⟩
  case invokespecial => exact ⟨fun _ => rfl, fun h => by
    have h : (if r2 = 1 then oiA pc L st else csA r1 pc L st).1 = 6 := h
    unfold oiA csA caA at h
    repeat' split at h
    all_goals exact absurd h (by simp [goA, stk])⟩
  case invokevirtual => exact ⟨fun _ => rfl, fun h => by
    have h : (cvA r1 r2 pc L st).1 = 6 := h
    unfold cvA caA at h
    repeat' split at h
    all_goals exact absurd h (by simp [goA, stk])⟩
  case ireturn => exact ⟨fun h => by
    have h : (reI m L st).1 = 5 := h
    unfold reI at h
    repeat' split at h
    all_goals exact absurd h (by simp [stk]), fun _ => rfl⟩
  case lreturn => exact ⟨fun h => by
    have h : (reL m L st).1 = 5 := h
    unfold reL at h
    repeat' split at h
    all_goals exact absurd h (by simp [stk]), fun _ => rfl⟩
  case return_ => exact ⟨fun h => by
    have h : (reV m L st).1 = 5 := h
    unfold reV at h
    repeat' split at h
    all_goals exact absurd h (by simp [stk]), fun _ => rfl⟩
  all_goals
    refine ⟨fun h => ?_, fun h => ?_⟩ <;> exfalso <;> revert h <;>
    simp only [act, ldA, stA, stA2, a1, a2, a2n, l2, l2n, lcA, ilA, inA, dpA, d2A, jmp, ifA, icA, brA, tsA, lkA, gfA, pfA, irA, rdA, iwA, bwA, awA, lnA, naA] <;>
    (repeat' split) <;> simp [goA, stk]
theorem cats_rev (l : List Vl) : cats l.reverse = cats l := by
  unfold cats
  induction l with
  | nil => rfl
  | cons a l ih => simp [List.map_reverse] at ih ⊢; omega
theorem lay1_all : LAY.all (fun q => decide (q.1 = 1 → q.2 < 6)) = true := by decide +kernel
theorem lay1 (a : Nat) (h : (lay a).1 = 1) : (lay a).2 < 6 := by
  unfold lay at h ⊢
  rw [List.getD_eq_getElem?_getD] at h ⊢
  cases hq : LAY[a]? with
  | none => rw [hq] at h; exact absurd h (by decide)
  | some q =>
    rw [hq] at h
    exact of_decide_eq_true (List.all_eq_true.mp lay1_all q (List.mem_of_getElem? hq)) h
theorem rcv_small {st : List Vl} {n ci : Nat} (h : rcv st n = some ci) : ci < 6 := by
  unfold rcv at h
  split at h
  · split at h
    · rename_i hc
      cases h
      exact lay1 _ hc.2.2
    · cases h
  · cases h
section CALLALL
variable {p : Program} {l : Launch} {e : Env} {R : Room} {s : State} {mi : MethodId} {args : Array Value} {below : List Frame} {meth : Method} {c : Code} {Q : State → Prop} {n0 : Nat}
variable {dC : Nat → ClassId} {dI : Nat → Nat → Nat} {b L0 : Nat} {xs0 : Nat → Int32} {A : Nat → Prop} {w0 : va_W} {nF m : Nat} {pc : Nat} {L st : List Vl} {sto sto1 : Sto}
theorem call_all {en : Ent} {j pc' a2 : Nat} {bb : Bool} {vv : Vl} {L' st' as r : List Vl} (X : CX p R s mi args meth c m n0 nF b L0 xs0 A) (hok : okE m (mO m) (mB m) pc en = true) (h5 : act m en pc L st = (5, pc', j, a2, bb, vv, L', st', as))
    (hM : j < 225 → cats as ≤ mL j → MetOK l j as sto r sto1) (hle : sto.1 ≤ sto1.1) (hnF : sto1.1 ≤ nF) (k : At (gW p l e R s mi args below meth c Q n0) (WX dC dI b L0 xs0 s A w0 n0) mi b (mL m) pc' L' (r ++ st') sto1) : At (gW p l e R s mi args below meth c Q n0) (WX dC dI b L0 xs0 s A w0 n0) mi b (mL m) pc L st sto := by
  have htag := act_tag.1 (by rw [h5] : (act m en pc L st).1 = 5)
  obtain ⟨hx, hb, hml, hts, hown, hini, hRm, hA, hX, hbl, hbA, hL0, hAO, hRc, hRs⟩ := X
  obtain ⟨i, len, r1, r2⟩ := en
  revert htag
  cases i
  case invokestatic i =>
    intro _
    obtain ⟨hd, hlen, hk⟩ := okE_spec hok rfl
    dsimp only at hd hlen
    dsimp only [insLen] at hlen; subst hlen
    have h5 : (if r2 = 0 then caA r1 pc L st else mmA r2 pc L st) = _ := h5
    have hk : (if r2 = 0 then okRoom m r1 && hasM mlT (mO m) i r1 101 else (if r2 = 1 then hasI miT (mO m) i else hasI mxT (mO m) i) && decide (1 ≤ mFr m) && decide (21 ≤ mLo m)) = true := hk
    by_cases h0 : r2 = 0
    · rw [if_pos h0] at h5 hk
      rw [Bool.and_eq_true] at hk
      unfold caA at h5
      split at h5
      · rename_i hc
        cases h5
        have hj : j < 225 := by
          have := hk.1
          simp only [okRoom, Bool.and_eq_true, decide_eq_true_eq] at this
          exact this.1.1
        exact at_cs (m := m) (o := mO m) hx hb hml hts hown hA hX hbl hbA hL0 hAO hRm hRc hRs hk.1 hk.2 hd hc.1 hc.2.1 (hM hj (by rw [cats_rev]; exact hc.2.2)) hle hnF k
      · cases h5
    · rw [if_neg h0] at h5
      unfold mmA at h5
      repeat' split at h5
      all_goals cases h5
  case invokespecial i =>
    intro _
    obtain ⟨hd, hlen, hk⟩ := okE_spec hok rfl
    dsimp only at hd hlen
    dsimp only [insLen] at hlen; subst hlen
    have h5 : (if r2 = 1 then oiA pc L st else csA r1 pc L st) = _ := h5
    have hk : (if r2 = 1 then hasI obT (mO m) i && decide (1 ≤ mFr m) && decide (12 ≤ mLo m) else okRoom m r1 && hasM mlT (mO m) i r1 100) = true := hk
    by_cases h0 : r2 = 1
    · rw [if_pos h0] at h5
      unfold oiA at h5
      repeat' split at h5
      all_goals cases h5
    · rw [if_neg h0] at h5 hk
      rw [Bool.and_eq_true] at hk
      unfold csA at h5
      split at h5
      · rename_i ci hrc
        unfold caA at h5
        split at h5
        · rename_i hc
          cases h5
          have hj : j < 225 := by
            have := hk.1
            simp only [okRoom, Bool.and_eq_true, decide_eq_true_eq] at this
            exact this.1.1
          exact at_ci (m := m) (o := mO m) hx hb hml hts hown hA hX hbl hbA hL0 hAO hRm hRc hRs hk.1 hk.2 hd hrc hc.1 hc.2.1 (hM hj (by rw [cats_rev]; exact hc.2.2)) hle hnF k
        · cases h5
      · cases h5
  case invokevirtual i =>
    intro _
    obtain ⟨hd, hlen, hk⟩ := okE_spec hok rfl
    dsimp only at hd hlen
    dsimp only [insLen] at hlen; subst hlen
    have h5 : cvA r1 r2 pc L st = _ := h5
    have hk : (okRoom m r1 && hasM mlT (mO m) i r1 r2.toNat && decide (0 ≤ r2)) = true := hk
    rw [Bool.and_eq_true, decide_eq_true_eq, Bool.and_eq_true] at hk
    obtain ⟨hk, hneg⟩ := hk
    unfold cvA at h5
    split at h5
    · rename_i ci hrc
      by_cases hkd : (if r2 = 0 then cC ci = (mY r1).cls else (cis r2.toNat).contains ci = true)
      · rw [if_pos hkd] at h5
        unfold caA at h5
        by_cases hc : mNA r1 ≤ st.length ∧ cats (st.drop (mNA r1)) ≤ 8 ∧ cats (st.take (mNA r1)) ≤ mL r1
        · rw [if_pos hc] at h5
          cases h5
          have hj : j < 225 := by
            have := hk.1
            simp only [okRoom, Bool.and_eq_true, decide_eq_true_eq] at this
            exact this.1.1
          by_cases hr0 : r2.toNat = 0
          · have hkd2 : if r2.toNat = 0 then cC ci = (mY j).cls else (cis r2.toNat).contains ci = true := by
              rw [if_pos hr0]
              by_cases h0 : r2 = 0
              · rw [if_pos h0] at hkd; exact hkd
              · exact absurd hneg (by omega)
            exact at_cv (m := m) (o := mO m) hx hb hml hts hown hA hX hbl hbA hL0 hAO hRm hRc hRs hk.1 hk.2 hd hrc (by omega) (by omega) hkd2 hc.1 hc.2.1 (hM hj (by rw [cats_rev]; exact hc.2.2)) hle hnF k
          · have h0 : ¬ r2 = 0 := fun z => hr0 (by rw [z]; rfl)
            rw [if_neg h0] at hkd
            have hne : r2.toNat ≠ 100 ∧ r2.toNat ≠ 101 := by
              constructor
              · intro z
                rw [z] at hkd
                have : ci = 100 := by simpa [cis] using hkd
                exact absurd (rcv_small hrc) (by omega)
              · intro z
                rw [z] at hkd
                have : ci = 101 := by simpa [cis] using hkd
                exact absurd (rcv_small hrc) (by omega)
            exact at_cv (m := m) (o := mO m) hx hb hml hts hown hA hX hbl hbA hL0 hAO hRm hRc hRs hk.1 hk.2 hd hrc hne.1 hne.2 (by rw [if_neg hr0]; exact hkd) hc.1 hc.2.1 (hM hj (by rw [cats_rev]; exact hc.2.2)) hle hnF k
        · rw [if_neg hc] at h5; cases h5
      · rw [if_neg hkd] at h5; cases h5
    · cases h5
  all_goals exact fun z => absurd (show false = true from z) (by decide)
end CALLALL
end
section
theorem okEs_at {m o : Nat} {bs : ByteArray} : ∀ (es : List Ent) (k i : Nat) (en : Ent), okEs m o bs k es = true → nth es i = some en → okE m o bs (k + i) en = true
  | [], _, _, _, _, h => by cases h
  | e :: es, k, 0, en, h, g => by
    cases g
    rw [okEs, Bool.and_eq_true] at h
    exact h.1
  | e :: es, k, i + 1, en, h, g => by
    rw [okEs, Bool.and_eq_true] at h
    have := okEs_at es (k + 1) i en h.2 g
    rw [show k + (i + 1) = k + 1 + i by omega]
    exact this
theorem ok_at {m pc : Nat} {en : Ent} (hm : m < 226) (h : nth (mE m) pc = some en) : okE m (mO m) (mB m) pc en = true := by
  have := okEs_at (mE m) 0 pc en (okAll m hm) h
  rwa [Nat.zero_add] at this
theorem ent_at {ws : va_W} {b : Nat} : ∀ (as : List Vl) (xs : List Value) (k i : Nat) (v : Vl), rvs ws b as xs → (as.flatMap fun v => if v.1 = 2 then [v, ((0, 0) : Vl)] else [v])[i]? = some v → v.1 ≠ 0 → ∃ x, (k + i, x) ∈ lv_args k xs ∧ rvl ws b v x
  | [], _, _, _, _, _, h, _ => by simp at h
  | _ :: _, [], _, _, _, h, _, _ => h.elim
  | a :: as, x :: xs, k, i, v, h, g, hv => by
    rw [List.flatMap_cons] at g
    have hc := rvl_cat h.1
    by_cases ha : a.1 = 2
    · rw [if_pos ha] at g hc
      match i, g with
      | 0, g =>
        have : v = a := by simpa using g.symm
        subst this
        exact ⟨x, by simp [lv_args], h.1⟩
      | 1, g =>
        have : v = (0, 0) := by simpa using g.symm
        subst this
        exact absurd rfl hv
      | i + 2, g =>
        have g : (as.flatMap fun v => if v.1 = 2 then [v, ((0, 0) : Vl)] else [v])[i]? = some v := by simpa using g
        obtain ⟨y, h1, h2⟩ := ent_at as xs (k + 2) i v h.2 g hv
        refine ⟨y, ?_, h2⟩
        rw [lv_args, if_pos hc, show k + (i + 2) = k + 2 + i by omega]
        exact List.mem_cons_of_mem _ h1
    · rw [if_neg ha] at g hc
      match i, g with
      | 0, g =>
        have : v = a := by simpa using g.symm
        subst this
        exact ⟨x, by simp [lv_args], h.1⟩
      | i + 1, g =>
        have g : (as.flatMap fun v => if v.1 = 2 then [v, ((0, 0) : Vl)] else [v])[i]? = some v := by simpa using g
        obtain ⟨y, h1, h2⟩ := ent_at as xs (k + 1) i v h.2 g hv
        refine ⟨y, ?_, h2⟩
        rw [lv_args, if_neg (by omega), show k + (i + 1) = k + 1 + i by omega]
        exact List.mem_cons_of_mem _ h1
theorem fl_len : ∀ (as : List Vl), (as.flatMap fun v => if v.1 = 2 then [v, ((0, 0) : Vl)] else [v]).length = cats as
  | [] => rfl
  | a :: as => by
    have := fl_len as
    unfold cats at this ⊢
    rw [List.flatMap_cons, List.length_append, this, List.map_cons, List.sum_cons]
    by_cases ha : a.1 = 2
    · rw [if_pos ha, if_pos ha]; rfl
    · rw [if_neg ha, if_neg ha]; rfl
theorem ent_len {as : List Vl} {n : Nat} (h : cats as ≤ n) : (entL as n).length = n := by
  unfold entL
  rw [List.length_append, fl_len, List.length_replicate]
  show cats as + (n - cats as) = n
  omega
theorem ent_rls {ws : va_W} {b : Nat} {as : List Vl} {xs : List Value} {n : Nat} (h : rvs ws b as xs) : rls ws b (entL as n) (lv_args 0 xs) := by
  intro i v hi hv
  unfold entL at hi
  by_cases hl : i < (as.flatMap fun v => if v.1 = 2 then [v, ((0, 0) : Vl)] else [v]).length
  · rw [List.getElem?_append_left hl] at hi
    obtain ⟨x, h1, h2⟩ := ent_at as xs 0 i v h hi hv
    rw [Nat.zero_add] at h1
    exact ⟨x, h1, h2⟩
  · rw [List.getElem?_append_right (by omega)] at hi
    have := List.mem_of_getElem? hi
    rw [List.mem_replicate] at this
    exact absurd (by rw [this.2]) hv
theorem lg_len : ∀ (xs : List Value), (lg_sl xs).length = (xs.map fun v => v.category).sum
  | [] => rfl
  | x :: xs => by
    have := lg_len xs
    unfold lg_sl at this ⊢
    rw [List.flatMap_cons, List.length_append, this, List.map_cons, List.sum_cons]
    rcases lv_cat x with h | h
    · rw [if_neg (by omega), h]; rfl
    · rw [if_pos h, h]; rfl
theorem iniT_ok : iniT.all (fun j => decide ((mY j).name = "<init>")) = true := by decide +kernel
def Snd (l : Launch) (m pc : Nat) (L st : List Vl) (sto : Sto) (r : List Vl) (sto' : Sto) : Prop :=
  ∀ (p : Program) (e : Env) (R : Room) (s : State) (mi : MethodId) (args : Array Value) (below : List Frame) (meth : Method) (c : Code) (Q : State → Prop) (n0 : Nat) (dC : Nat → ClassId) (dI : Nat → Nat → Nat) (b L0 : Nat) (xs0 : Nat → Int32) (A : Nat → Prop) (w0 : va_W) (nF : Nat),
    CX p R s mi args meth c m n0 nF b L0 xs0 A → n0 ≤ sto.1 → sto'.1 ≤ nF →
    (∀ (pc : Nat) (en : Ent) (L : List Vl), nth (mE m) pc = some en → (act m en pc L r).1 = 6 → At (gW p l e R s mi args below meth c Q n0) (WX dC dI b L0 xs0 s A w0 n0) mi b (mL m) pc L r sto') →
    At (gW p l e R s mi args below meth c Q n0) (WX dC dI b L0 xs0 s A w0 n0) mi b (mL m) pc L st sto
set_option maxHeartbeats 2000000 in
theorem met_of {l : Launch} {j : Nat} {as r : List Vl} {sto sto' : Sto} (hj : j < 225) (hc : cats as ≤ mL j) (h : Snd l j 0 (entL as (mL j)) [] sto r sto') : MetOK l j as sto r sto' := by
  intro dC dI b L0 xs0 ws tys sz xs hxs hw hap hL0
  obtain ⟨g1, g2, g3, g4, g5, g6, g7, g8⟩ := me_at hj
  refine Met.ofW (cc := mB j) (maxL := mL j) (ret := mR j) (by rw [g1]; exact g8) rfl ?_
  intro p e s m args below meth c s₁ B hml hv
  obtain ⟨rfl, hP, hK, hD0, hX, hbl, hAO, hsz⟩ := hv
  have hx := B.exec
  have hb := B.bytes
  have hr := B.returns
  have hts := atoms_spec (ws := cWs j) B.pre
  have hown : s.vm.findClass (mY j).cls = some m.cls := findClass_of_methodNamed B.named
  have hlocks := B.notSynchronized
  have hin : meth.name = (mY j).name := (name_of_methodNamed B.named B.method).1
  subst hsz
  have hD := hD0.self (sz := s.heap.size)
  have hl := lv_entry xs (n := mL j) (by rw [lg_len, rvs_cats hxs]; exact hc)
  rw [lg_entry_eq]
  have X : CX p (headSpec (cWs j) (cRm j sto sto')).room s m xs.toArray meth c j sto.1 sto'.1 b L0 xs0 (va_A ws s.heap.size) :=
    ⟨hx, hb, hml, fun w hw => hts w (List.mem_cons_of_mem _ hw), by rw [← g1]; exact hown, fun hi => by
      rw [hin]
      have hm : j ∈ iniT := by simpa using hi
      exact of_decide_eq_true (List.all_eq_true.mp iniT_ok j hm), ⟨Nat.le_refl _, Nat.le_refl _⟩, fun q h => Or.inr h, hX, hbl, fun hh => by
      rcases hh with ⟨k, e, hh⟩ | hh
      · exact hap k b e hh rfl
      · omega, hL0, hAO, Nat.le_refl _, Nat.le_refl _⟩
  have k := h p e _ s m xs.toArray below meth c (MQ below (cQc dC dI b L0 xs0 ws s.heap.size r sto') xs.toArray s (sto'.1 - sto.1) (SL sto'.1 - SL sto.1) (va_A ws s.heap.size)) sto.1 dC dI b L0 xs0 (va_A ws s.heap.size) ws sto'.1 X (Nat.le_refl _) (Nat.le_refl _) (by
    intro pc en L hn h6 H locs ls lv xs1 ws1 tys1 hV hl hL hr1 hs
    obtain ⟨hK1, hP1, hD1, hS1, hw1, hx1, hn1⟩ := hV
    have htag := act_tag.2 h6
    have hok := ok_at (by omega) hn
    obtain ⟨i, len, r1, r2⟩ := en
    revert htag
    cases i
    case ireturn =>
      intro _
      obtain ⟨hd, hlen, hk⟩ := okE_spec hok rfl
      dsimp only at hd hlen
      dsimp only [insLen] at hlen; subst hlen
      have h6 : (reI j L r).1 = 6 := h6
      unfold reI at h6
      split at h6
      · rename_i x
        split at h6
        · rename_i hret
          obtain ⟨y, ys, rfl, hy, hs2⟩ := rvs_i hs
          have := rvs_nil hs2
          subst this
          rcases hret with hret | ⟨hret, h01⟩
          · exact W.iret (v := y) hx hb (by rw [hr]; exact hret) (fun t ht hW => ⟨⟨[.int y], ws1, tys1, rfl, by simp, hs, hw1, by rw [ht]; exact hP1, va_K.moved hW.alike hK1, hD1, hx1⟩, hS1.F ht⟩) hS1.2.2 hd
          · refine W.zret (v := y) (ty := .boolean) hx hb (by rw [hr]; exact hret) ?_ (fun t ht hW => ⟨⟨[.int y], ws1, tys1, rfl, by simp, hs, hw1, by rw [ht]; exact hP1, va_K.moved hW.alike hK1, hD1, hx1⟩, hS1.F ht⟩) hS1.2.2 hd
            have : y = 0 ∨ y = 1 := by
              rcases h01 with h | h
              · exact Or.inl (Int32.toInt_inj.mp (by rw [hy, h]; rfl))
              · exact Or.inr (Int32.toInt_inj.mp (by rw [hy, h]; rfl))
            rcases this with rfl | rfl <;> decide
        · exact absurd h6 (by simp [stk])
      · exact absurd h6 (by simp [stk])
    case lreturn =>
      intro _
      obtain ⟨hd, hlen, hk⟩ := okE_spec hok rfl
      dsimp only at hd hlen
      dsimp only [insLen] at hlen; subst hlen
      have h6 : (reL j L r).1 = 6 := h6
      unfold reL at h6
      split at h6
      · rename_i x
        split at h6
        · rename_i hret
          obtain ⟨y, ys, rfl, hy, hs2⟩ := rvs_l hs
          have := rvs_nil hs2
          subst this
          exact W.lret (v := y) hx hb (by rw [hr]; exact hret) (fun t ht hW => ⟨⟨[.long y], ws1, tys1, rfl, by simp, hs, hw1, by rw [ht]; exact hP1, va_K.moved hW.alike hK1, hD1, hx1⟩, hS1.F ht⟩) hS1.2.2 hd
        · exact absurd h6 (by simp [stk])
      · exact absurd h6 (by simp [stk])
    case return_ =>
      intro _
      obtain ⟨hd, hlen, hk⟩ := okE_spec hok rfl
      dsimp only at hd hlen
      dsimp only [insLen] at hlen; subst hlen
      have h6 : (reV j L r).1 = 6 := h6
      unfold reV at h6
      split at h6
      · split at h6
        · rename_i hret
          have := rvs_nil hs
          subst this
          exact W.vret hx hb (by rw [hr]; exact hret) (fun t ht hW => ⟨⟨[], ws1, tys1, rfl, by simp, hs, hw1, by rw [ht]; exact hP1, va_K.moved hW.alike hK1, hD1, hx1⟩, hS1.F ht⟩) hS1.2.2 hd
        · exact absurd h6 (by simp [stk])
      · exact absurd h6 (by simp [stk])
    all_goals exact fun z => absurd (show false = true from z) (by decide)) s.heap [] _ (lv_args 0 xs) [] ws tys ⟨hK, hP, hD, va_S.rf, hw, ext_rf, Nat.le_refl _⟩ hl (ent_len hc) (ent_rls hxs) trivial
  unfold gW at k
  simp only [Nat.sub_self] at k
  exact k
set_option maxHeartbeats 2000000 in
theorem run_sound (l : Launch) {lo hi : Nat} : ∀ (f m pc : Nat) (L st : List Vl) (sto : Sto) (r : List Vl) (sto' : Sto), m < 226 → run lo hi f m pc L st sto = some (r, sto') → Snd l m pc L st sto r sto' := by
  intro f
  induction f with
  | zero => intro m pc L st sto r sto' hm h; cases h
  | succ f ih =>
    intro m pc L st sto r sto' hm h p e R s mi args below meth c Q n0 dC dI b L0 xs0 A w0 nF X hn0 hnF hend
    have hmono := run_mono _ _ _ _ _ _ _ _ h
    have hcN : sto.1 ≤ nF := Nat.le_trans hmono hnF
    unfold run at h
    split at h
    · cases h
    · rename_i en hen
      have hok := ok_at hm hen
      split at h
      · rename_i heq
        exact step_all X hcN hn0 hok (by rw [heq]; exact ih _ _ _ _ _ _ _ hm h p e R s mi args below meth c Q n0 dC dI b L0 xs0 A w0 nF X hn0 hnF hend)
      · rename_i heq
        split at h
        · exact step_all X hcN hn0 hok (by rw [heq]; exact ih _ _ _ _ _ _ _ hm h p e R s mi args below meth c Q n0 dC dI b L0 xs0 A w0 nF X hn0 hnF hend)
        · cases h
      · rename_i heq
        split at h
        · exact step_all X hcN hn0 hok (by rw [heq]; exact ih _ _ _ _ _ _ _ hm h p e R s mi args below meth c Q n0 dC dI b L0 xs0 A w0 nF X hn0 hnF hend)
        · cases h
      · rename_i heq
        split at h
        · rename_i hc
          have hm1 := run_mono _ _ _ _ _ _ _ _ h
          dsimp only at hm1
          exact step_all X hcN hn0 hok (by rw [heq]; exact ⟨hc.1, by omega, ih _ _ _ _ _ _ _ hm h p e R s mi args below meth c Q n0 dC dI b L0 xs0 A w0 nF X (by dsimp only; omega) hnF hend⟩)
        · cases h
      · rename_i heq
        split at h
        · rename_i r1 s1 hcall
          have hm1 := run_mono _ _ _ _ _ _ _ _ hcall
          have hm2 := run_mono _ _ _ _ _ _ _ _ h
          exact call_all X hok heq (fun hj hca => met_of hj hca (ih _ _ _ _ _ _ _ (by omega) hcall)) hm1 (Nat.le_trans hm2 hnF)
            (ih _ _ _ _ _ _ _ hm h p e R s mi args below meth c Q n0 dC dI b L0 xs0 A w0 nF X (Nat.le_trans hn0 hm1) hnF hend)
        · cases h
      · rename_i heq
        cases h
        exact hend pc en L hen (by rw [heq])
      · rename_i heq
        split at h
        · rename_i hc
          exact step_all X hcN hn0 hok (by rw [heq]; exact ⟨hc.2.1, hc.2.2, ih _ _ _ _ _ _ _ hm h p e R s mi args below meth c Q n0 dC dI b L0 xs0 A w0 nF X hn0 hnF hend⟩)
        · cases h
      · rename_i heq
        split at h
        · exact step_all X hcN hn0 hok (by rw [heq]; exact ih _ _ _ _ _ _ _ hm h p e R s mi args below meth c Q n0 dC dI b L0 xs0 A w0 nF X hn0 hnF hend)
        · cases h
      · rename_i heq
        split at h
        · rename_i hbb
          refine step_all X hcN hn0 hok ?_
          rw [heq]
          show if _ = true then _ else _
          rw [if_pos hbb]
          exact ih _ _ _ _ _ _ _ hm h p e R s mi args below meth c Q n0 dC dI b L0 xs0 A w0 nF X hn0 hnF hend
        · rename_i hbb
          refine step_all X hcN hn0 hok ?_
          rw [heq]
          show if _ = true then _ else _
          rw [if_neg hbb]
          exact ih _ _ _ _ _ _ _ hm h p e R s mi args below meth c Q n0 dC dI b L0 xs0 A w0 nF X hn0 hnF hend
      · cases h
end
section
/-! RUNS OF THE SMALL MACHINE, goal first: G m pc L st s Q: from place pc of method m, with locals L and stack st, over the store s, the method ends, and its answer and the store then have Q. -/
theorem run_fuel {lo hi : Nat} : ∀ (f m pc : Nat) (L st : List Vl) (s : Sto) (x : List Vl × Sto), run lo hi f m pc L st s = some x → run lo hi (f + 1) m pc L st s = some x := by
  intro f
  induction f with
  | zero => intro m pc L st s x h; cases h
  | succ f ih =>
    intro m pc L st s x h
    rw [run] at h ⊢
    cases hn : nth (mE m) pc with
    | none => rw [hn] at h; cases h
    | some en =>
      rw [hn] at h
      dsimp only at h ⊢
      generalize act m en pc L st = A at h ⊢
      split at h
      · exact ih _ _ _ _ _ _ h
      · split at h
        · rename_i hc
          try dsimp only
          rw [if_pos hc]
          exact ih _ _ _ _ _ _ h
        · cases h
      · split at h
        · rename_i hc
          try dsimp only
          rw [if_pos hc]
          exact ih _ _ _ _ _ _ h
        · cases h
      · split at h
        · rename_i hc
          try dsimp only
          rw [if_pos hc]
          exact ih _ _ _ _ _ _ h
        · cases h
      · split at h
        · rename_i hc
          try dsimp only
          rw [ih _ _ _ _ _ _ hc]
          exact ih _ _ _ _ _ _ h
        · cases h
      · exact h
      · split at h
        · rename_i hc
          try dsimp only
          rw [if_pos hc]
          exact ih _ _ _ _ _ _ h
        · cases h
      · split at h
        · rename_i hc
          try dsimp only
          rw [if_pos hc]
          exact ih _ _ _ _ _ _ h
        · cases h
      · try dsimp only
        split at h
        · rename_i hc
          rw [if_pos hc]
          exact ih _ _ _ _ _ _ h
        · rename_i hc
          rw [if_neg hc]
          exact ih _ _ _ _ _ _ h
      · cases h
theorem run_more {lo hi f m pc : Nat} {L st : List Vl} {s : Sto} {x : List Vl × Sto} (h : run lo hi f m pc L st s = some x) (k : Nat) : run lo hi (f + k) m pc L st s = some x := by
  induction k with
  | zero => exact h
  | succ k ih => exact run_fuel _ _ _ _ _ _ _ ih
def G (lo hi m pc : Nat) (L st : List Vl) (s : Sto) (Q : List Vl → Sto → Prop) : Prop := ∃ (f : Nat) (r : List Vl) (s' : Sto), run lo hi f m pc L st s = some (r, s') ∧ Q r s'
section GR
variable {lo hi m pc pc' : Nat} {L st L' st' : List Vl} {s : Sto} {Q : List Vl → Sto → Prop} {en : Ent}
theorem G_go (he : nth (mE m) pc = some en) (ha : act m en pc L st = goA pc' L' st') (k : G lo hi m pc' L' st' s Q) : G lo hi m pc L st s Q := by
  obtain ⟨f, r, s', h, q⟩ := k
  refine ⟨f + 1, r, s', ?_, q⟩
  rw [run, he]
  try dsimp only
  rw [ha]
  exact h
theorem G_rd {a k t : Nat} {z : Int} (he : nth (mE m) pc = some en) (ha : act m en pc L st = (2, pc', a, k, false, (t, z), L', st', [])) (hr : lo ≤ a ∧ a < hi) (kk : G lo hi m pc' L' ((t, s.2 a k) :: st') s Q) : G lo hi m pc L st s Q := by
  obtain ⟨f, r, s', h, q⟩ := kk
  refine ⟨f + 1, r, s', ?_, q⟩
  rw [run, he]
  try dsimp only
  rw [ha]
  show (if lo ≤ a ∧ a < hi then run lo hi f m pc' L' ((t, s.2 a k) :: st') s else none) = _
  rw [if_pos hr]
  exact h
theorem G_wr {a k t : Nat} {x : Int} (he : nth (mE m) pc = some en) (ha : act m en pc L st = (3, pc', a, k, false, (t, x), L', st', [])) (hr : lo ≤ a ∧ a < hi) (kk : G lo hi m pc' L' st' (s.1, upS s.2 a k x) Q) : G lo hi m pc L st s Q := by
  obtain ⟨f, r, s', h, q⟩ := kk
  refine ⟨f + 1, r, s', ?_, q⟩
  rw [run, he]
  try dsimp only
  rw [ha]
  show (if lo ≤ a ∧ a < hi then run lo hi f m pc' L' st' (s.1, upS s.2 a k x) else none) = _
  rw [if_pos hr]
  exact h
theorem G_call {j k : Nat} {b : Bool} {v : Vl} {as : List Vl} (he : nth (mE m) pc = some en) (ha : act m en pc L st = (5, pc', j, k, b, v, L', st', as)) (kk : G lo hi j 0 (entL as (mL j)) [] s (fun r s1 => G lo hi m pc' L' (r ++ st') s1 Q)) : G lo hi m pc L st s Q := by
  obtain ⟨f1, r1, s1, h1, f2, r, s', h, q⟩ := kk
  refine ⟨f1 + f2 + 1, r, s', ?_, q⟩
  rw [run, he]
  try dsimp only
  rw [ha]
  show (match run lo hi (f1 + f2) j 0 (entL as (mL j)) [] s with
    | some (r, s') => run lo hi (f1 + f2) m pc' L' (r ++ st') s'
    | none => none) = _
  rw [run_more h1 f2]
  show run lo hi (f1 + f2) m pc' L' (r1 ++ st') s1 = _
  rw [Nat.add_comm f1 f2]
  exact run_more h f1
theorem G_ret (he : nth (mE m) pc = some en) (ha : (act m en pc L st).1 = 6) (k : Q st s) : G lo hi m pc L st s Q := by
  refine ⟨1, st, s, ?_, k⟩
  rw [run, he]
  try dsimp only
  generalize act m en pc L st = A at ha
  obtain ⟨t, x⟩ := A
  dsimp only at ha
  subst ha
  rfl
theorem G_br {b : Bool} {pf : Nat} {v : Vl} (he : nth (mE m) pc = some en) (ha : act m en pc L st = (9, pc', pf, 0, b, v, L', st', [])) (kt : b = true → G lo hi m pc' L' st' s Q) (kf : b = false → G lo hi m pf L' st' s Q) : G lo hi m pc L st s Q := by
  cases b with
  | true =>
    obtain ⟨f, r, s', h, q⟩ := kt rfl
    refine ⟨f + 1, r, s', ?_, q⟩
    rw [run, he]
    try dsimp only
    rw [ha]
    exact h
  | false =>
    obtain ⟨f, r, s', h, q⟩ := kf rfl
    refine ⟨f + 1, r, s', ?_, q⟩
    rw [run, he]
    try dsimp only
    rw [ha]
    exact h
theorem G_eq {x y : Int} {pf : Nat} {v : Vl} (he : nth (mE m) pc = some en) (ha : act m en pc L st = (9, pc', pf, 0, cmpB .eq x y, v, L', st', [])) (kt : x = y → G lo hi m pc' L' st' s Q) (kf : x ≠ y → G lo hi m pf L' st' s Q) : G lo hi m pc L st s Q :=
  G_br he ha (fun h => kt (of_decide_eq_true h)) (fun h => kf (of_decide_eq_false h))
theorem G_ne {x y : Int} {pf : Nat} {v : Vl} (he : nth (mE m) pc = some en) (ha : act m en pc L st = (9, pc', pf, 0, cmpB .ne x y, v, L', st', [])) (kt : x ≠ y → G lo hi m pc' L' st' s Q) (kf : x = y → G lo hi m pf L' st' s Q) : G lo hi m pc L st s Q :=
  G_br he ha (fun h => kt (of_decide_eq_true h)) (fun h => kf (Decidable.not_not.mp (of_decide_eq_false h)))
theorem G_lt {x y : Int} {pf : Nat} {v : Vl} (he : nth (mE m) pc = some en) (ha : act m en pc L st = (9, pc', pf, 0, cmpB .lt x y, v, L', st', [])) (kt : x < y → G lo hi m pc' L' st' s Q) (kf : y ≤ x → G lo hi m pf L' st' s Q) : G lo hi m pc L st s Q :=
  G_br he ha (fun h => kt (of_decide_eq_true h)) (fun h => kf (by have := of_decide_eq_false h; omega))
theorem G_ge {x y : Int} {pf : Nat} {v : Vl} (he : nth (mE m) pc = some en) (ha : act m en pc L st = (9, pc', pf, 0, cmpB .ge x y, v, L', st', [])) (kt : y ≤ x → G lo hi m pc' L' st' s Q) (kf : x < y → G lo hi m pf L' st' s Q) : G lo hi m pc L st s Q :=
  G_br he ha (fun h => kt (of_decide_eq_true h)) (fun h => kf (by have := of_decide_eq_false h; omega))
theorem G_gt {x y : Int} {pf : Nat} {v : Vl} (he : nth (mE m) pc = some en) (ha : act m en pc L st = (9, pc', pf, 0, cmpB .gt x y, v, L', st', [])) (kt : y < x → G lo hi m pc' L' st' s Q) (kf : x ≤ y → G lo hi m pf L' st' s Q) : G lo hi m pc L st s Q :=
  G_br he ha (fun h => kt (of_decide_eq_true h)) (fun h => kf (by have := of_decide_eq_false h; omega))
theorem G_le {x y : Int} {pf : Nat} {v : Vl} (he : nth (mE m) pc = some en) (ha : act m en pc L st = (9, pc', pf, 0, cmpB .le x y, v, L', st', [])) (kt : x ≤ y → G lo hi m pc' L' st' s Q) (kf : y < x → G lo hi m pf L' st' s Q) : G lo hi m pc L st s Q :=
  G_br he ha (fun h => kt (of_decide_eq_true h)) (fun h => kf (by have := of_decide_eq_false h; omega))
theorem G_mono {Q2 : List Vl → Sto → Prop} (h : G lo hi m pc L st s Q) (hq : ∀ r s1, Q r s1 → Q2 r s1) : G lo hi m pc L st s Q2 := by
  obtain ⟨f, r, s', h, q⟩ := h
  exact ⟨f, r, s', h, hq _ _ q⟩
theorem G_swap {lo2 hi2 m2 pc2 : Nat} {L2 st2 : List Vl} {s2 : Sto} {Q4 : List Vl → Sto → List Vl → Sto → Prop} (h : G lo2 hi2 m2 pc2 L2 st2 s2 (fun r2 t2 => G lo hi m pc L st s (fun r t => Q4 r t r2 t2))) : G lo hi m pc L st s (fun r t => G lo2 hi2 m2 pc2 L2 st2 s2 (fun r2 t2 => Q4 r t r2 t2)) := by
  obtain ⟨f2, r2, t2, h2, f, r, t, h, q⟩ := h
  exact ⟨f, r, t, h, f2, r2, t2, h2, q⟩
theorem G_al {a k : Nat} {b : Bool} {v : Vl} (he : nth (mE m) pc = some en) (ha : act m en pc L st = (4, pc', a, k, b, v, L', st', [])) (hl : lay s.1 = (a, k) ∧ lo ≤ s.1 ∧ s.1 < hi) (kk : G lo hi m pc' L' ((3, (s.1 : Int)) :: st') (s.1 + 1, clS s.2 s.1) Q) : G lo hi m pc L st s Q := by
  obtain ⟨f, r, s', h, q⟩ := kk
  refine ⟨f + 1, r, s', ?_, q⟩
  rw [run, he]
  try dsimp only
  rw [ha]
  show (if lay s.1 = (a, k) ∧ lo ≤ s.1 ∧ s.1 < hi then run lo hi f m pc' L' ((3, (s.1 : Int)) :: st') (s.1 + 1, clS s.2 s.1) else none) = _
  rw [if_pos hl]
  exact h
theorem G_brT {b : Bool} {pf : Nat} {v : Vl} (he : nth (mE m) pc = some en) (ha : act m en pc L st = (9, pc', pf, 0, b, v, L', st', [])) (hb : b = true) (k : G lo hi m pc' L' st' s Q) : G lo hi m pc L st s Q := G_br he ha (fun _ => k) (fun h => by rw [hb] at h; cases h)
theorem G_brF {b : Bool} {pf : Nat} {v : Vl} (he : nth (mE m) pc = some en) (ha : act m en pc L st = (9, pc', pf, 0, b, v, L', st', [])) (hb : b = false) (k : G lo hi m pf L' st' s Q) : G lo hi m pc L st s Q := G_br he ha (fun h => by rw [hb] at h; cases h) (fun _ => k)
theorem G_k {x k : Int} (hx : x = k) (he : nth (mE m) pc = some en) (ha : act m en pc L ((1, k) :: st) = goA pc' L' st') (kk : G lo hi m pc' L' st' s Q) : G lo hi m pc L ((1, x) :: st) s Q := by
  subst hx
  exact G_go he ha kk
theorem G_tsd {x d l h : Int} {offs : Array Int} {len r1 : Nat} {r2 : Int} (he : nth (mE m) pc = some (.tableswitch d l h offs, len, r1, r2)) (hj : jmp pc d L st = goA pc' L st) (hd : x < l ∨ h < x) (kk : G lo hi m pc' L st s Q) : G lo hi m pc L ((1, x) :: st) s Q := by
  refine G_go he ?_ kk
  show (if x < l ∨ h < x then jmp pc d L st else _) = _
  rw [if_pos hd]
  exact hj
theorem G_lkd {x d : Int} {ps : Array (Int × Int)} {len r1 : Nat} {r2 : Int} (he : nth (mE m) pc = some (.lookupswitch d ps, len, r1, r2)) (ho : Op.lookupswitch.offset ps.toList d x = d) (hj : jmp pc d L st = goA pc' L st) (kk : G lo hi m pc' L st s Q) : G lo hi m pc L ((1, x) :: st) s Q := by
  refine G_go he ?_ kk
  show jmp pc (Op.lookupswitch.offset ps.toList d x) L st = _
  rw [ho]
  exact hj
theorem G_rf {a k : Nat} {v z : Int} (he : nth (mE m) pc = some en) (ha : act m en pc L st = (2, pc', a, k, false, (3, z), L', st', [])) (hr : lo ≤ a ∧ a < hi) (hv : s.2 a k = v) (kk : G lo hi m pc' L' ((3, v) :: st') s Q) : G lo hi m pc L st s Q := by
  refine G_rd he ha hr ?_
  rw [hv]
  exact kk
theorem G_pz {a k : Nat} {y : Int} (he : nth (mE m) pc = some en) (ha : ∀ y : Int, (y = 0 ∨ y = 1) → act m en pc L ((1, y) :: st) = (3, pc', a, k, false, (1, y), L', st', [])) (g : y = 0 ∨ y = 1) (hr : lo ≤ a ∧ a < hi) (kk : G lo hi m pc' L' st' (s.1, upS s.2 a k y) Q) : G lo hi m pc L ((1, y) :: st) s Q := G_wr he (ha y g) hr kk
theorem G_ir {a i : Int} {n : Nat} (he : nth (mE m) pc = some (.iaload, 1, 0, 0)) (hl : lay a.toNat = (2, n)) (h2 : 2 ≤ a) (hr : lo ≤ a.toNat ∧ a.toNat < hi) (g : 0 ≤ i ∧ i < (n : Int)) (kk : G lo hi m (pc + 1) L ((1, s.2 a.toNat i.toNat) :: st) s Q) : G lo hi m pc L ((1, i) :: (3, a) :: st) s Q := by
  refine G_rd he (t := 1) (z := 0) ?_ hr kk
  show (if a = 1 then _ else if 2 ≤ a ∧ (lay a.toNat).1 = 2 ∧ 0 ≤ i ∧ i < ((lay a.toNat).2 : Int) then _ else _) = _
  rw [if_neg (by omega), hl, if_pos ⟨h2, rfl, g.1, g.2⟩]
theorem G_zr {a i : Int} {n : Nat} (he : nth (mE m) pc = some (.baload, 1, 0, 0)) (hl : lay a.toNat = (3, n)) (h2 : 2 ≤ a) (hr : lo ≤ a.toNat ∧ a.toNat < hi) (g : 0 ≤ i ∧ i < (n : Int)) (kk : G lo hi m (pc + 1) L ((1, s.2 a.toNat i.toNat) :: st) s Q) : G lo hi m pc L ((1, i) :: (3, a) :: st) s Q := by
  refine G_rd he (t := 1) (z := 0) ?_ hr kk
  show (if 2 ≤ a ∧ (lay a.toNat).1 = 3 ∧ 0 ≤ i ∧ i < ((lay a.toNat).2 : Int) then _ else _) = _
  rw [hl, if_pos ⟨h2, rfl, g.1, g.2⟩]
theorem G_irv {a i v : Int} {n : Nat} (he : nth (mE m) pc = some (.iaload, 1, 0, 0)) (hl : lay a.toNat = (2, n)) (h2 : 2 ≤ a) (hr : lo ≤ a.toNat ∧ a.toNat < hi) (g : 0 ≤ i ∧ i < (n : Int)) (hv : s.2 a.toNat i.toNat = v) (kk : G lo hi m (pc + 1) L ((1, v) :: st) s Q) : G lo hi m pc L ((1, i) :: (3, a) :: st) s Q :=
  G_ir he hl h2 hr g (by rw [hv]; exact kk)
theorem G_zrv {a i v : Int} {n : Nat} (he : nth (mE m) pc = some (.baload, 1, 0, 0)) (hl : lay a.toNat = (3, n)) (h2 : 2 ≤ a) (hr : lo ≤ a.toNat ∧ a.toNat < hi) (g : 0 ≤ i ∧ i < (n : Int)) (hv : s.2 a.toNat i.toNat = v) (kk : G lo hi m (pc + 1) L ((1, v) :: st) s Q) : G lo hi m pc L ((1, i) :: (3, a) :: st) s Q :=
  G_zr he hl h2 hr g (by rw [hv]; exact kk)
theorem G_rdv {a k t : Nat} {z v : Int} (he : nth (mE m) pc = some en) (ha : act m en pc L st = (2, pc', a, k, false, (t, z), L', st', [])) (hr : lo ≤ a ∧ a < hi) (hv : s.2 a k = v) (kk : G lo hi m pc' L' ((t, v) :: st') s Q) : G lo hi m pc L st s Q :=
  G_rd he ha hr (by rw [hv]; exact kk)
theorem G_iw {a i x : Int} {n : Nat} (he : nth (mE m) pc = some (.iastore, 1, 0, 0)) (hl : lay a.toNat = (2, n)) (h2 : 2 ≤ a) (hr : lo ≤ a.toNat ∧ a.toNat < hi) (g : 0 ≤ i ∧ i < (n : Int)) (kk : G lo hi m (pc + 1) L st (s.1, upS s.2 a.toNat i.toNat x) Q) : G lo hi m pc L ((1, x) :: (1, i) :: (3, a) :: st) s Q := by
  refine G_wr he (t := 1) ?_ hr kk
  show (if 2 ≤ a ∧ (lay a.toNat).1 = 2 ∧ 0 ≤ i ∧ i < ((lay a.toNat).2 : Int) then _ else _) = _
  rw [hl, if_pos ⟨h2, rfl, g.1, g.2⟩]
theorem G_zw {a i x : Int} {n : Nat} (he : nth (mE m) pc = some (.bastore, 1, 0, 0)) (hl : lay a.toNat = (3, n)) (h2 : 2 ≤ a) (hr : lo ≤ a.toNat ∧ a.toNat < hi) (g : 0 ≤ i ∧ i < (n : Int)) (gz : x = 0 ∨ x = 1) (kk : G lo hi m (pc + 1) L st (s.1, upS s.2 a.toNat i.toNat x) Q) : G lo hi m pc L ((1, x) :: (1, i) :: (3, a) :: st) s Q := by
  refine G_wr he (t := 1) ?_ hr kk
  show (if 2 ≤ a ∧ (lay a.toNat).1 = 3 ∧ 0 ≤ i ∧ i < ((lay a.toNat).2 : Int) ∧ (x = 0 ∨ x = 1) then _ else _) = _
  rw [hl, if_pos ⟨h2, rfl, g.1, g.2, gz⟩]
theorem G_min {x y : Int} {i r1 : Nat} (he : nth (mE m) pc = some (.invokestatic i, 3, r1, 1)) (hc : Nat.ble (cats st) 8 = true) (kk : G lo hi m (pc + 3) L ((1, min x y) :: st) s Q) : G lo hi m pc L ((1, y) :: (1, x) :: st) s Q := by
  refine G_go he ?_ kk
  show (if cats st ≤ 8 then goA (pc + 3) L ((1, if (1 : Int) = 1 then (if y < x then y else x) else (if x < y then y else x)) :: st) else stk) = _
  rw [if_pos (Nat.le_of_ble_eq_true hc), if_pos rfl]
  have : (if y < x then y else x) = min x y := by
    by_cases h : y < x
    · rw [if_pos h]; omega
    · rw [if_neg h]; omega
  rw [this]
theorem G_max {x y : Int} {i r1 : Nat} (he : nth (mE m) pc = some (.invokestatic i, 3, r1, 2)) (hc : Nat.ble (cats st) 8 = true) (kk : G lo hi m (pc + 3) L ((1, max x y) :: st) s Q) : G lo hi m pc L ((1, y) :: (1, x) :: st) s Q := by
  refine G_go he ?_ kk
  show (if cats st ≤ 8 then goA (pc + 3) L ((1, if (2 : Int) = 1 then (if y < x then y else x) else (if x < y then y else x)) :: st) else stk) = _
  rw [if_pos (Nat.le_of_ble_eq_true hc), if_neg (by decide)]
  have : (if x < y then y else x) = max x y := by
    by_cases h : x < y
    · rw [if_pos h]; omega
    · rw [if_neg h]; omega
  rw [this]
theorem G_retZ {x : Int} (he : nth (mE m) pc = some (.ireturn, 1, 0, 0)) (hm : mR m = some .boolean) (g : x = 0 ∨ x = 1) (k : Q [(1, x)] s) : G lo hi m pc L [(1, x)] s Q := by
  refine G_ret he ?_ k
  show (if mR m = some .int ∨ (mR m = some .boolean ∧ (x = 0 ∨ x = 1)) then _ else stk).1 = 6
  rw [if_pos (Or.inr ⟨hm, g⟩)]
theorem G_idiv {x y : Int} (he : nth (mE m) pc = some (.idiv, 1, 0, 0)) (g : y ≠ 0) (kk : G lo hi m (pc + 1) L ((1, xdiv x y) :: st) s Q) : G lo hi m pc L ((1, y) :: (1, x) :: st) s Q := by
  refine G_go he ?_ kk
  show (if y = 0 then stk else _) = _
  rw [if_neg g]
theorem G_irem {x y : Int} (he : nth (mE m) pc = some (.irem, 1, 0, 0)) (g : y ≠ 0) (kk : G lo hi m (pc + 1) L ((1, xrem x y) :: st) s Q) : G lo hi m pc L ((1, y) :: (1, x) :: st) s Q := by
  refine G_go he ?_ kk
  show (if y = 0 then stk else _) = _
  rw [if_neg g]
theorem G_ldiv {x y : Int} (he : nth (mE m) pc = some (.ldiv, 1, 0, 0)) (g : y ≠ 0) (kk : G lo hi m (pc + 1) L ((2, xldiv x y) :: st) s Q) : G lo hi m pc L ((2, y) :: (2, x) :: st) s Q := by
  refine G_go he ?_ kk
  show (if y = 0 then stk else _) = _
  rw [if_neg g]
theorem G_lrem {x y : Int} (he : nth (mE m) pc = some (.lrem, 1, 0, 0)) (g : y ≠ 0) (kk : G lo hi m (pc + 1) L ((2, xlrem x y) :: st) s Q) : G lo hi m pc L ((2, y) :: (2, x) :: st) s Q := by
  refine G_go he ?_ kk
  show (if y = 0 then stk else _) = _
  rw [if_neg g]
end GR
theorem xl_lt {a b : Int} (h : xlcmp a b < 0) : a < b := by
  unfold xlcmp at h
  split at h
  · omega
  · split at h <;> omega
theorem xl_ge {a b : Int} (h : 0 ≤ xlcmp a b) : a ≥ b := by
  unfold xlcmp at h
  split at h
  · omega
  · split at h <;> omega
theorem xl_gt {a b : Int} (h : 0 < xlcmp a b) : a > b := by
  unfold xlcmp at h
  split at h
  · omega
  · split at h <;> omega
theorem xl_le {a b : Int} (h : xlcmp a b ≤ 0) : a ≤ b := by
  unfold xlcmp at h
  split at h
  · omega
  · split at h <;> omega
theorem xl_eq {a b : Int} (h : xlcmp a b = 0) : a = b := by
  unfold xlcmp at h
  split at h
  · omega
  · split at h <;> omega
theorem xl_ne {a b : Int} (h : xlcmp a b ≠ 0) : a ≠ b := by
  intro e
  subst e
  exact h (by unfold xlcmp; rw [if_neg (by omega), if_pos rfl])
theorem run_lift {lo hi lo' hi' : Nat} (h1 : lo' ≤ lo) (h2 : hi ≤ hi') : ∀ (f m pc : Nat) (L st : List Vl) (s : Sto) (x : List Vl × Sto), run lo hi f m pc L st s = some x → run lo' hi' f m pc L st s = some x := by
  intro f
  induction f with
  | zero => intro m pc L st s x h; cases h
  | succ f ih =>
    intro m pc L st s x h
    rw [run] at h ⊢
    cases hn : nth (mE m) pc with
    | none => rw [hn] at h; cases h
    | some en =>
      rw [hn] at h
      dsimp only at h ⊢
      generalize act m en pc L st = A at h ⊢
      split at h
      · exact ih _ _ _ _ _ _ h
      · split at h
        · rename_i hc
          try dsimp only
          rw [if_pos ⟨Nat.le_trans h1 hc.1, Nat.lt_of_lt_of_le hc.2 h2⟩]
          exact ih _ _ _ _ _ _ h
        · cases h
      · split at h
        · rename_i hc
          try dsimp only
          rw [if_pos ⟨Nat.le_trans h1 hc.1, Nat.lt_of_lt_of_le hc.2 h2⟩]
          exact ih _ _ _ _ _ _ h
        · cases h
      · split at h
        · rename_i hc
          try dsimp only
          rw [if_pos ⟨hc.1, Nat.le_trans h1 hc.2.1, Nat.lt_of_lt_of_le hc.2.2 h2⟩]
          exact ih _ _ _ _ _ _ h
        · cases h
      · split at h
        · rename_i hc
          try dsimp only
          rw [ih _ _ _ _ _ _ hc]
          exact ih _ _ _ _ _ _ h
        · cases h
      · exact h
      · split at h
        · rename_i hc
          try dsimp only
          rw [if_pos ⟨Nat.le_trans h1 hc.1, hc.2⟩]
          exact ih _ _ _ _ _ _ h
        · cases h
      · split at h
        · rename_i hc
          try dsimp only
          rw [if_pos (Nat.le_trans h1 hc)]
          exact ih _ _ _ _ _ _ h
        · cases h
      · try dsimp only
        split at h
        · rename_i hc
          rw [if_pos hc]
          exact ih _ _ _ _ _ _ h
        · rename_i hc
          rw [if_neg hc]
          exact ih _ _ _ _ _ _ h
      · cases h
def ovr (lo hi : Nat) (t s : Nat → Nat → Int) : Nat → Nat → Int := fun a => if lo ≤ a ∧ a < hi then t a else s a
theorem ovr_up {lo hi a k : Nat} {x : Int} {t s : Nat → Nat → Int} (h : lo ≤ a ∧ a < hi) : ovr lo hi t (upS s a k x) = ovr lo hi t s := by
  funext a' k'
  unfold ovr
  by_cases hc : lo ≤ a' ∧ a' < hi
  · rw [if_pos hc, if_pos hc]
  · rw [if_neg hc, if_neg hc]
    have : a' ≠ a := fun e => hc (e ▸ h)
    simp [upS, this]
theorem ovr_cl {lo hi a : Nat} {t s : Nat → Nat → Int} (h : lo ≤ a ∧ a < hi) : ovr lo hi t (clS s a) = ovr lo hi t s := by
  funext a' k'
  unfold ovr
  by_cases hc : lo ≤ a' ∧ a' < hi
  · rw [if_pos hc, if_pos hc]
  · rw [if_neg hc, if_neg hc]
    have : a' ≠ a := fun e => hc (e ▸ h)
    simp [clS, this]
theorem ovr_ovr {lo hi : Nat} {t t1 s : Nat → Nat → Int} : ovr lo hi t (ovr lo hi t1 s) = ovr lo hi t s := by
  funext a' k'
  unfold ovr
  by_cases hc : lo ≤ a' ∧ a' < hi
  · rw [if_pos hc, if_pos hc]
  · rw [if_neg hc, if_neg hc, if_neg hc]
theorem ovr_self {lo hi : Nat} {s s2 : Nat → Nat → Int} (h : ∀ a, lo ≤ a ∧ a < hi → s2 a = s a) : ovr lo hi s s2 = s2 := by
  funext a' k'
  unfold ovr
  by_cases hc : lo ≤ a' ∧ a' < hi
  · rw [if_pos hc, h a' hc]
  · rw [if_neg hc]
theorem ovr_in {lo hi a : Nat} {t s : Nat → Nat → Int} (h : lo ≤ a ∧ a < hi) : ovr lo hi t s a = t a := by unfold ovr; rw [if_pos h]
theorem ovr_out {lo hi a : Nat} {t s : Nat → Nat → Int} (h : ¬ (lo ≤ a ∧ a < hi)) : ovr lo hi t s a = s a := by unfold ovr; rw [if_neg h]
/-- what a run does depends on its own cells alone -/
theorem run_reg {lo hi : Nat} (h2 : 2 ≤ lo) : ∀ (f m pc : Nat) (L st : List Vl) (n : Nat) (s : Nat → Nat → Int) (r : List Vl) (n' : Nat) (t : Nat → Nat → Int), run lo hi f m pc L st (n, s) = some (r, (n', t)) → ∀ s2 : Nat → Nat → Int, (∀ a, lo ≤ a ∧ a < hi → s2 a = s a) → run lo hi f m pc L st (n, s2) = some (r, (n', ovr lo hi t s2)) := by
  intro f
  induction f with
  | zero => intro m pc L st n s r n' t h; cases h
  | succ f ih =>
    intro m pc L st n s r n' t h s2 hs
    rw [run] at h ⊢
    cases hn : nth (mE m) pc with
    | none => rw [hn] at h; cases h
    | some en =>
      rw [hn] at h
      dsimp only at h ⊢
      generalize act m en pc L st = A at h ⊢
      split at h
      · exact ih _ _ _ _ _ _ _ _ _ h _ hs
      · split at h
        · rename_i hc
          try dsimp only
          rw [if_pos hc, hs _ hc]
          exact ih _ _ _ _ _ _ _ _ _ h _ hs
        · cases h
      · split at h
        · rename_i hc
          try dsimp only
          rw [if_pos hc, ← ovr_up (t := t) (s := s2) hc]
          exact ih _ _ _ _ _ _ _ _ _ h _ (fun a' ha' => by
            funext k'
            unfold upS
            rw [hs a' ha'])
        · cases h
      · split at h
        · rename_i hc
          try dsimp only
          rw [if_pos hc, ← ovr_cl (t := t) (s := s2) hc.2]
          exact ih _ _ _ _ _ _ _ _ _ h _ (fun a' ha' => by
            funext k'
            unfold clS
            rw [hs a' ha'])
        · cases h
      · split at h
        · rename_i r1 s1 hc
          obtain ⟨n1, t1⟩ := s1
          try dsimp only
          rw [ih _ _ _ _ _ _ _ _ _ hc _ hs]
          try dsimp only
          have := ih _ _ _ _ _ _ _ _ _ h (ovr lo hi t1 s2) (fun a' ha' => ovr_in ha')
          rw [ovr_ovr] at this
          exact this
        · cases h
      · cases h
        try dsimp only
        rw [ovr_self hs]
      · split at h
        · rename_i hc
          exact absurd hc.1 (by omega)
        · cases h
      · split at h
        · rename_i hc
          exact absurd hc (by omega)
        · cases h
      · try dsimp only
        split at h
        · rename_i hc
          rw [if_pos hc]
          exact ih _ _ _ _ _ _ _ _ _ h _ hs
        · rename_i hc
          rw [if_neg hc]
          exact ih _ _ _ _ _ _ _ _ _ h _ hs
      · cases h
def refTab : List (List (Option Int)) := [[], [], [some 3, some 13, some 23, none, some 33, some 115, some 117, some 119], [some 4, some 5, some 6, some 7, some 8, some 9, some 10, some 11, some 12], [], [], [], [], [], [], [], [], [], [some 14, some 15, some 16, some 17, some 18, some 19, some 20, some 21, some 22], [], [], [], [], [], [], [], [], [], [some 24, some 25, some 26, some 27, some 28, some 29, some 30, some 31, some 32], [], [], [], [], [], [], [], [], [], [some 34], [some 35, some 45, some 55, some 65, some 75, some 85, some 95, some 105], [some 36, some 37, some 38, some 39, some 40, some 41, some 42, some 43, some 44], [], [], [], [], [], [], [], [], [], [some 46, some 47, some 48, some 49, some 50, some 51, some 52, some 53, some 54], [], [], [], [], [], [], [], [], [], [some 56, some 57, some 58, some 59, some 60, some 61, some 62, some 63, some 64], [], [], [], [], [], [], [], [], [], [some 66, some 67, some 68, some 69, some 70, some 71, some 72, some 73, some 74], [], [], [], [], [], [], [], [], [], [some 76, some 77, some 78, some 79, some 80, some 81, some 82, some 83, some 84], [], [], [], [], [], [], [], [], [], [some 86, some 87, some 88, some 89, some 90, some 91, some 92, some 93, some 94], [], [], [], [], [], [], [], [], [], [some 96, some 97, some 98, some 99, some 100, some 101, some 102, some 103, some 104], [], [], [], [], [], [], [], [], [], [some 106, some 107, some 108, some 109, some 110, some 111, some 112, some 113, some 114], [], [], [], [], [], [], [], [], [], [some 116], [], [some 118], [], [], [none, some 121, some 122, some 123, some 124, some 125, some 126, some 127, some 128, none, none, some 129, some 130, some 131, none, none, none, none, some 132, some 133, some 134, some 135, some 136, none, none, none, none, some 137, some 138, none, some 139], [], [], [], [], [], [], [], [], [], [], [], [], [], [], [], [], [], [], []]
def refF (a k : Nat) : Option Int := (refTab.getD a []).getD k none
def refs (s : Nat → Nat → Int) : Prop := ∀ (a k : Nat) (v : Int), refF a k = some v → s a k = v
theorem refs_up {s : Nat → Nat → Int} {a k : Nat} {x : Int} (h : refs s) (hn : refF a k = none) : refs (upS s a k x) := by
  intro a' k' v hv
  unfold upS
  by_cases hc : a' = a ∧ k' = k
  · rw [hc.1, hc.2, hn] at hv; cases hv
  · rw [if_neg hc]; exact h a' k' v hv
/-! trial -/
end
section
/-! NUMBERS, AND THE LEAVES: wealth, burns, honest, lasts. -/
theorem wr_id {x : Int} (h1 : -2147483648 ≤ x) (h2 : x < 2147483648) : wr x = x := bm32 h1 h2
theorem ofInt_id {x : Int} (h1 : -2147483648 ≤ x) (h2 : x < 2147483648) : (Int32.ofInt x).toInt = x := by
  rw [Int32.toInt_ofInt]
  exact bm32 h1 h2
theorem xdiv_nn {a b : Int} (h1 : 0 ≤ a) (h2 : a < 2147483648) (h3 : 0 < b) (h4 : b < 2147483648) : xdiv a b = a / b := by
  unfold xdiv iB
  rw [Int32.toInt_div, ofInt_id (by omega) h2, ofInt_id (by omega) h4, Int.tdiv_eq_ediv_of_nonneg h1]
  have g1 : 0 ≤ a / b := Int.ediv_nonneg h1 (by omega)
  have g2 : a / b ≤ a := Int.ediv_le_self b h1
  exact bm32 (by omega) (by omega)
theorem xrem_nn {a b : Int} (h1 : 0 ≤ a) (h2 : a < 2147483648) (h3 : 0 < b) (h4 : b < 2147483648) : xrem a b = a % b := by
  have hq : (Int32.ofInt a / Int32.ofInt b).toInt = a / b := xdiv_nn h1 h2 h3 h4
  have g1 : 0 ≤ a / b := Int.ediv_nonneg h1 (by omega)
  have g2 : a / b ≤ a := Int.ediv_le_self b h1
  have g3 := Int.emod_nonneg a (show b ≠ 0 by omega)
  have g4 : b * (a / b) + a % b = a := Int.mul_ediv_add_emod a b
  have g6 : a / b * b = a - a % b := by rw [Int.mul_comm]; omega
  have g5 : a % b ≤ a := by
    have : 0 ≤ b * (a / b) := Int.mul_nonneg (by omega) g1
    omega
  unfold xrem iB
  rw [Int32.toInt_sub, Int32.toInt_mul, hq, ofInt_id (by omega) h2, ofInt_id (by omega) h4, g6, show Int.bmod (a - a % b) (2 ^ 32) = a - a % b from bm32 (by omega) (by omega)]
  rw [show a - (a - a % b) = a % b by omega]
  exact bm32 (by omega) (by omega)
def wlt (k f h d : Int) : Int := if k = 1 then h + d + 10 else if k = 2 then (if (h + d) / 2 > f then (h + d) / 2 - f else 0) else if k = 3 then h + d + d else if k = 4 then h + d + 10 - h / 2 else if k = 5 then f else h + d
def bns (k w : Int) : Int := if k = 1 ∨ k = 4 then 2 + w / 10 else if k = 3 then 1 + w / 5 else if k = 5 then 1 else 1 + w / 10
def hon (k f : Int) : Int := if k = 1 ∨ k = 4 ∨ k = 5 then 1 else if k = 3 then 0 else if 4 ≤ f then 1 else 0
def lst (c b : Int) : Int := (c + b - 1) / b
theorem wlt_rg {k f h d : Int} (g1 : 0 ≤ f ∧ f ≤ 9) (g2 : 0 ≤ h ∧ h ≤ 2000) (g3 : 0 ≤ d ∧ d ≤ 200) : 0 ≤ wlt k f h d ∧ wlt k f h d ≤ 9999 := by
  unfold wlt
  repeat' split
  all_goals omega
theorem bns_rg {k w : Int} (g : 0 ≤ w ∧ w ≤ 9999) : 1 ≤ bns k w ∧ bns k w ≤ 2001 := by
  unfold bns
  repeat' split
  all_goals omega
theorem hon_01 (k f : Int) : hon k f = 0 ∨ hon k f = 1 := by
  unfold hon
  repeat' split
  all_goals omega
theorem lst_rg {c b : Int} (g : 0 ≤ c ∧ c ≤ 99) (h : 1 ≤ b) : 0 ≤ lst c b ∧ lst c b ≤ 99 := by
  unfold lst
  have h1 : (c + b - 1) / b * b ≤ c + b - 1 := Int.ediv_mul_le _ (by omega)
  refine ⟨Int.ediv_nonneg (by omega) (by omega), ?_⟩
  have h2 : (c + b - 1) / b < 100 := by
    apply Int.ediv_lt_of_lt_mul (by omega)
    have : 99 * b ≥ 99 := by omega
    have : 100 * b = 99 * b + b := by omega
    omega
  omega
theorem Qe {Q : List Vl → Sto → Prop} {s : Sto} {t : Nat} {a b : Int} (h : Q [(t, b)] s) (e : a = b) : Q [(t, a)] s := e ▸ h
/-- eight rows from an address on: kind, figure, holds, hides, candle, lit, pages, cousin -/
def vw (β : Nat) (s : Nat → Nat → Int) : Nat → Nat → Int := fun k p => s (β + k) p
/-- what one burns who has c coins -/
def bnV (V : Nat → Nat → Int) (p : Nat) (c : Int) : Int := bns (V 0 p) (wlt (V 0 p) (V 1 p) c (V 3 p))
def lsV (V : Nat → Nat → Int) (p : Nat) (c : Int) : Int := lst (V 4 p) (bnV V p c)
def wlW (V : Nat → Nat → Int) (p : Nat) : Int := wlt (V 0 p) (V 1 p) (V 2 p) (V 3 p)
def bnW (V : Nat → Nat → Int) (p : Nat) : Int := bnV V p (V 2 p)
def hnW (V : Nat → Nat → Int) (p : Nat) : Int := hon (V 0 p) (V 1 p)
def lsW (V : Nat → Nat → Int) (p : Nat) : Int := lsV V p (V 2 p)
def rgP (V : Nat → Nat → Int) (p : Nat) : Prop := (0 ≤ V 1 p ∧ V 1 p ≤ 9) ∧ (0 ≤ V 3 p ∧ V 3 p ≤ 200)
theorem bnV_rg {V : Nat → Nat → Int} {p : Nat} {c : Int} (h : rgP V p) (hc : 0 ≤ c ∧ c ≤ 2000) : 1 ≤ bnV V p c ∧ bnV V p c ≤ 2001 := bns_rg (wlt_rg h.1 hc h.2)
theorem lsV_rg {V : Nat → Nat → Int} {p : Nat} {c : Int} (h : rgP V p) (hc : 0 ≤ c ∧ c ≤ 2000) (h4 : 0 ≤ V 4 p ∧ V 4 p ≤ 99) : 0 ≤ lsV V p c ∧ lsV V p c ≤ 99 := lst_rg h4 (bnV_rg h hc).1
theorem sb_X1_wealth_0 (n : Nat) (s : Nat → Nat → Int) (Q : List Vl → Sto → Prop) (a0 : Int) (a1 : Int) (a2 : Int) (a3 : Int) (hR : refs s)
    (h : (a0 = 1 → Q [(1, wr ((wr (a2 + a3)) + 10))] (n, s)) ∧ (a0 = 2 → (xdiv (wr (a2 + a3)) 2 ≤ a1 → Q [(1, 0)] (n, s)) ∧ (a1 < xdiv (wr (a2 + a3)) 2 → Q [(1, wr ((xdiv (wr (a2 + a3)) 2) - a1))] (n, s))) ∧ (a0 = 3 → Q [(1, wr (a2 + (wr (2 * a3))))] (n, s)) ∧ (a0 = 4 → Q [(1, wr ((wr ((wr (a2 + a3)) + 10)) - (xdiv a2 2)))] (n, s)) ∧ (a0 = 5 → Q [(1, a1)] (n, s)) ∧ (a0 < 1 ∨ 5 < a0 → Q [(1, wr (a2 + a3))] (n, s))) :
    G 2 120 3 0 [(1, a0), (1, a1), (1, a2), (1, a3), (0, 0)] [] (n, s) Q := by
  refine G_go rfl rfl ?_
  refine G_go rfl rfl ?_
  refine G_go rfl rfl ?_
  refine G_go rfl rfl ?_
  refine G_go rfl rfl ?_
  by_cases hs6_0 : a0 = 1
  · refine G_k hs6_0 rfl rfl ?_
    have h := h.1 hs6_0
    refine G_go rfl rfl ?_
    refine G_go rfl rfl ?_
    refine G_go rfl rfl ?_
    exact G_ret rfl rfl h
  replace h := h.2
  by_cases hs6_1 : a0 = 2
  · refine G_k hs6_1 rfl rfl ?_
    have h := h.1 hs6_1
    refine G_go rfl rfl ?_
    refine G_go rfl rfl ?_
    refine G_go rfl rfl ?_
    refine G_go rfl rfl ?_
    refine G_le rfl rfl (fun c1 => ?_) (fun c1 => ?_)
    · have h := h.1 c1
      refine G_go rfl rfl ?_
      exact G_ret rfl rfl h
    · have h := h.2 c1
      refine G_go rfl rfl ?_
      refine G_go rfl rfl ?_
      refine G_go rfl rfl ?_
      refine G_go rfl rfl ?_
      refine G_go rfl rfl ?_
      refine G_go rfl rfl ?_
      exact G_ret rfl rfl h
  replace h := h.2
  by_cases hs6_2 : a0 = 3
  · refine G_k hs6_2 rfl rfl ?_
    have h := h.1 hs6_2
    refine G_go rfl rfl ?_
    refine G_go rfl rfl ?_
    refine G_go rfl rfl ?_
    refine G_go rfl rfl ?_
    refine G_go rfl rfl ?_
    exact G_ret rfl rfl h
  replace h := h.2
  by_cases hs6_3 : a0 = 4
  · refine G_k hs6_3 rfl rfl ?_
    have h := h.1 hs6_3
    refine G_go rfl rfl ?_
    refine G_go rfl rfl ?_
    refine G_go rfl rfl ?_
    refine G_go rfl rfl ?_
    refine G_go rfl rfl ?_
    refine G_go rfl rfl ?_
    refine G_go rfl rfl ?_
    exact G_ret rfl rfl h
  replace h := h.2
  by_cases hs6_4 : a0 = 5
  · refine G_k hs6_4 rfl rfl ?_
    have h := h.1 hs6_4
    refine G_go rfl rfl ?_
    exact G_ret rfl rfl h
  replace h := h.2
  have hd6 : a0 < 1 ∨ 5 < a0 := by omega
  refine G_tsd rfl rfl hd6 ?_
  replace h := h hd6
  refine G_go rfl rfl ?_
  exact G_ret rfl rfl h
theorem sb_X1_burns_0 (n : Nat) (s : Nat → Nat → Int) (Q : List Vl → Sto → Prop) (a0 : Int) (a1 : Int) (hR : refs s)
    (h : (a0 = 1 → Q [(1, wr (2 + (xdiv a1 10)))] (n, s)) ∧ (a0 = 2 → Q [(1, wr (1 + (xdiv a1 10)))] (n, s)) ∧ (a0 = 3 → Q [(1, wr (1 + (xdiv a1 5)))] (n, s)) ∧ (a0 = 4 → Q [(1, wr (2 + (xdiv a1 10)))] (n, s)) ∧ (a0 = 5 → Q [(1, 1)] (n, s)) ∧ (a0 < 1 ∨ 5 < a0 → Q [(1, wr (1 + (xdiv a1 10)))] (n, s))) :
    G 2 120 1 0 [(1, a0), (1, a1)] [] (n, s) Q := by
  refine G_go rfl rfl ?_
  by_cases hs1_0 : a0 = 1
  · refine G_k hs1_0 rfl rfl ?_
    have h := h.1 hs1_0
    refine G_go rfl rfl ?_
    refine G_go rfl rfl ?_
    refine G_go rfl rfl ?_
    refine G_go rfl rfl ?_
    refine G_go rfl rfl ?_
    exact G_ret rfl rfl h
  replace h := h.2
  by_cases hs1_1 : a0 = 2
  · refine G_k hs1_1 rfl rfl ?_
    have h := h.1 hs1_1
    refine G_go rfl rfl ?_
    refine G_go rfl rfl ?_
    refine G_go rfl rfl ?_
    refine G_go rfl rfl ?_
    refine G_go rfl rfl ?_
    exact G_ret rfl rfl h
  replace h := h.2
  by_cases hs1_2 : a0 = 3
  · refine G_k hs1_2 rfl rfl ?_
    have h := h.1 hs1_2
    refine G_go rfl rfl ?_
    refine G_go rfl rfl ?_
    refine G_go rfl rfl ?_
    refine G_go rfl rfl ?_
    refine G_go rfl rfl ?_
    exact G_ret rfl rfl h
  replace h := h.2
  by_cases hs1_3 : a0 = 4
  · refine G_k hs1_3 rfl rfl ?_
    have h := h.1 hs1_3
    refine G_go rfl rfl ?_
    refine G_go rfl rfl ?_
    refine G_go rfl rfl ?_
    refine G_go rfl rfl ?_
    refine G_go rfl rfl ?_
    exact G_ret rfl rfl h
  replace h := h.2
  by_cases hs1_4 : a0 = 5
  · refine G_k hs1_4 rfl rfl ?_
    have h := h.1 hs1_4
    refine G_go rfl rfl ?_
    exact G_ret rfl rfl h
  replace h := h.2
  have hd1 : a0 < 1 ∨ 5 < a0 := by omega
  refine G_tsd rfl rfl hd1 ?_
  replace h := h hd1
  refine G_go rfl rfl ?_
  refine G_go rfl rfl ?_
  refine G_go rfl rfl ?_
  refine G_go rfl rfl ?_
  refine G_go rfl rfl ?_
  exact G_ret rfl rfl h
theorem sb_X1_honest_0 (n : Nat) (s : Nat → Nat → Int) (Q : List Vl → Sto → Prop) (a0 : Int) (a1 : Int) (hR : refs s)
    (h : (a0 = 1 → Q [(1, 1)] (n, s)) ∧ (a0 = 2 → (a1 < 4 → Q [(1, 0)] (n, s)) ∧ (4 ≤ a1 → Q [(1, 1)] (n, s))) ∧ (a0 = 3 → Q [(1, 0)] (n, s)) ∧ (a0 = 4 → Q [(1, 1)] (n, s)) ∧ (a0 = 5 → Q [(1, 1)] (n, s)) ∧ (a0 < 1 ∨ 5 < a0 → (a1 < 4 → Q [(1, 0)] (n, s)) ∧ (4 ≤ a1 → Q [(1, 1)] (n, s)))) :
    G 2 120 2 0 [(1, a0), (1, a1)] [] (n, s) Q := by
  refine G_go rfl rfl ?_
  by_cases hs1_0 : a0 = 1
  · refine G_k hs1_0 rfl rfl ?_
    have h := h.1 hs1_0
    refine G_go rfl rfl ?_
    exact G_ret rfl rfl h
  replace h := h.2
  by_cases hs1_1 : a0 = 2
  · refine G_k hs1_1 rfl rfl ?_
    have h := h.1 hs1_1
    refine G_go rfl rfl ?_
    refine G_go rfl rfl ?_
    refine G_lt rfl rfl (fun c1 => ?_) (fun c1 => ?_)
    · have h := h.1 c1
      refine G_go rfl rfl ?_
      exact G_ret rfl rfl h
    · have h := h.2 c1
      refine G_go rfl rfl ?_
      refine G_go rfl rfl ?_
      exact G_ret rfl rfl h
  replace h := h.2
  by_cases hs1_2 : a0 = 3
  · refine G_k hs1_2 rfl rfl ?_
    have h := h.1 hs1_2
    refine G_go rfl rfl ?_
    exact G_ret rfl rfl h
  replace h := h.2
  by_cases hs1_3 : a0 = 4
  · refine G_k hs1_3 rfl rfl ?_
    have h := h.1 hs1_3
    refine G_go rfl rfl ?_
    exact G_ret rfl rfl h
  replace h := h.2
  by_cases hs1_4 : a0 = 5
  · refine G_k hs1_4 rfl rfl ?_
    have h := h.1 hs1_4
    refine G_go rfl rfl ?_
    exact G_ret rfl rfl h
  replace h := h.2
  have hd1 : a0 < 1 ∨ 5 < a0 := by omega
  refine G_tsd rfl rfl hd1 ?_
  replace h := h hd1
  refine G_go rfl rfl ?_
  refine G_go rfl rfl ?_
  refine G_lt rfl rfl (fun c2 => ?_) (fun c2 => ?_)
  · have h := h.1 c2
    refine G_go rfl rfl ?_
    exact G_ret rfl rfl h
  · have h := h.2 c2
    refine G_go rfl rfl ?_
    refine G_go rfl rfl ?_
    exact G_ret rfl rfl h
theorem c_X1_wealth (n : Nat) (s : Nat → Nat → Int) (Q : List Vl → Sto → Prop) (k f h d : Int) (hR : refs s) (g1 : 0 ≤ f ∧ f ≤ 9) (g2 : 0 ≤ h ∧ h ≤ 2000) (g3 : 0 ≤ d ∧ d ≤ 200) (hq : Q [(1, wlt k f h d)] (n, s)) : G 2 120 3 0 [(1, k), (1, f), (1, h), (1, d), (0, 0)] [] (n, s) Q := by
  refine sb_X1_wealth_0 n s Q k f h d hR ⟨fun e => ?_, fun e => ⟨fun e2 => ?_, fun e2 => ?_⟩, fun e => ?_, fun e => ?_, fun e => ?_, fun e => ?_⟩
  all_goals refine Qe hq ?_
  all_goals try simp (disch := omega) only [wr_id, xdiv_nn] at e2
  all_goals try simp (disch := omega) only [wr_id, xdiv_nn]
  all_goals unfold wlt
  all_goals repeat' split
  all_goals omega
theorem c_X1_burns (n : Nat) (s : Nat → Nat → Int) (Q : List Vl → Sto → Prop) (k w : Int) (hR : refs s) (g : 0 ≤ w ∧ w ≤ 9999) (hq : Q [(1, bns k w)] (n, s)) : G 2 120 1 0 [(1, k), (1, w)] [] (n, s) Q := by
  refine sb_X1_burns_0 n s Q k w hR ⟨fun e => ?_, fun e => ?_, fun e => ?_, fun e => ?_, fun e => ?_, fun e => ?_⟩
  all_goals refine Qe hq ?_
  all_goals try simp (disch := omega) only [wr_id, xdiv_nn]
  all_goals unfold bns
  all_goals repeat' split
  all_goals omega
theorem c_X1_honest (n : Nat) (s : Nat → Nat → Int) (Q : List Vl → Sto → Prop) (k f : Int) (hR : refs s) (hq : Q [(1, hon k f)] (n, s)) : G 2 120 2 0 [(1, k), (1, f)] [] (n, s) Q := by
  refine sb_X1_honest_0 n s Q k f hR ⟨fun e => ?_, fun e => ⟨fun e2 => ?_, fun e2 => ?_⟩, fun e => ?_, fun e => ?_, fun e => ?_, fun e => ⟨fun e2 => ?_, fun e2 => ?_⟩⟩
  all_goals refine Qe hq ?_
  all_goals unfold hon
  all_goals repeat' split
  all_goals omega
theorem sb_X5_burnsHolding_0_3 (n : Nat) (s : Nat → Nat → Int) (Q : List Vl → Sto → Prop) (a0 : Int) (a1 : Int) (hR : refs s)
    (h : (0 ≤ a0 ∧ a0 < 6) ∧ ((0 ≤ s 5 a0.toNat ∧ s 5 a0.toNat ≤ 9) ∧ ((0 ≤ a1 ∧ a1 ≤ 2000) ∧ ((0 ≤ s 7 a0.toNat ∧ s 7 a0.toNat ≤ 200) ∧ ((0 ≤ wlt (s 4 a0.toNat) (s 5 a0.toNat) a1 (s 7 a0.toNat) ∧ wlt (s 4 a0.toNat) (s 5 a0.toNat) a1 (s 7 a0.toNat) ≤ 9999) ∧ (Q [(1, bns (s 4 a0.toNat) (wlt (s 4 a0.toNat) (s 5 a0.toNat) a1 (s 7 a0.toNat)))] (n, s))))))) :
    G 2 120 26 0 [(3, 3), (1, a0), (1, a1)] [] (n, s) Q := by
  refine G_go rfl rfl ?_
  refine G_rf rfl rfl (by decide) (hR 3 0 4 rfl) ?_
  refine G_go rfl rfl ?_
  obtain ⟨g1, h⟩ := h
  refine G_ir (n := 6) rfl rfl (by decide) (by decide) g1 ?_
  refine G_go rfl rfl ?_
  refine G_rf rfl rfl (by decide) (hR 3 0 4 rfl) ?_
  refine G_go rfl rfl ?_
  refine G_ir (n := 6) rfl rfl (by decide) (by decide) g1 ?_
  refine G_go rfl rfl ?_
  refine G_rf rfl rfl (by decide) (hR 3 1 5 rfl) ?_
  refine G_go rfl rfl ?_
  refine G_ir (n := 6) rfl rfl (by decide) (by decide) g1 ?_
  refine G_go rfl rfl ?_
  refine G_go rfl rfl ?_
  refine G_rf rfl rfl (by decide) (hR 3 3 7 rfl) ?_
  refine G_go rfl rfl ?_
  refine G_ir (n := 6) rfl rfl (by decide) (by decide) g1 ?_
  refine G_call rfl rfl ?_
  obtain ⟨g2, h⟩ := h
  obtain ⟨g3, h⟩ := h
  obtain ⟨g4, h⟩ := h
  refine c_X1_wealth n _ _ (s 4 a0.toNat) (s 5 a0.toNat) a1 (s 7 a0.toNat) hR g2 g3 g4 ?_
  refine G_call rfl rfl ?_
  obtain ⟨g5, h⟩ := h
  refine c_X1_burns n _ _ (s 4 a0.toNat) (wlt (s 4 a0.toNat) (s 5 a0.toNat) a1 (s 7 a0.toNat)) hR g5 ?_
  exact G_ret rfl rfl h
theorem c_X5_burnsHolding_3 (n : Nat) (s : Nat → Nat → Int) (Q : List Vl → Sto → Prop) (i c : Int) (hR : refs s) (g1 : 0 ≤ i ∧ i < 6) (g2 : rgP (vw 4 s) i.toNat) (g3 : 0 ≤ c ∧ c ≤ 2000) (hq : Q [(1, bnV (vw 4 s) i.toNat c)] (n, s)) : G 2 120 26 0 [(3, 3), (1, i), (1, c)] [] (n, s) Q :=
  sb_X5_burnsHolding_0_3 n s Q i c hR ⟨g1, g2.1, g3, g2.2, wlt_rg g2.1 g3 g2.2, hq⟩
theorem sb_X5_burnsHolding_0_13 (n : Nat) (s : Nat → Nat → Int) (Q : List Vl → Sto → Prop) (a0 : Int) (a1 : Int) (hR : refs s)
    (h : (0 ≤ a0 ∧ a0 < 6) ∧ ((0 ≤ s 15 a0.toNat ∧ s 15 a0.toNat ≤ 9) ∧ ((0 ≤ a1 ∧ a1 ≤ 2000) ∧ ((0 ≤ s 17 a0.toNat ∧ s 17 a0.toNat ≤ 200) ∧ ((0 ≤ wlt (s 14 a0.toNat) (s 15 a0.toNat) a1 (s 17 a0.toNat) ∧ wlt (s 14 a0.toNat) (s 15 a0.toNat) a1 (s 17 a0.toNat) ≤ 9999) ∧ (Q [(1, bns (s 14 a0.toNat) (wlt (s 14 a0.toNat) (s 15 a0.toNat) a1 (s 17 a0.toNat)))] (n, s))))))) :
    G 2 120 26 0 [(3, 13), (1, a0), (1, a1)] [] (n, s) Q := by
  refine G_go rfl rfl ?_
  refine G_rf rfl rfl (by decide) (hR 13 0 14 rfl) ?_
  refine G_go rfl rfl ?_
  obtain ⟨g1, h⟩ := h
  refine G_ir (n := 6) rfl rfl (by decide) (by decide) g1 ?_
  refine G_go rfl rfl ?_
  refine G_rf rfl rfl (by decide) (hR 13 0 14 rfl) ?_
  refine G_go rfl rfl ?_
  refine G_ir (n := 6) rfl rfl (by decide) (by decide) g1 ?_
  refine G_go rfl rfl ?_
  refine G_rf rfl rfl (by decide) (hR 13 1 15 rfl) ?_
  refine G_go rfl rfl ?_
  refine G_ir (n := 6) rfl rfl (by decide) (by decide) g1 ?_
  refine G_go rfl rfl ?_
  refine G_go rfl rfl ?_
  refine G_rf rfl rfl (by decide) (hR 13 3 17 rfl) ?_
  refine G_go rfl rfl ?_
  refine G_ir (n := 6) rfl rfl (by decide) (by decide) g1 ?_
  refine G_call rfl rfl ?_
  obtain ⟨g2, h⟩ := h
  obtain ⟨g3, h⟩ := h
  obtain ⟨g4, h⟩ := h
  refine c_X1_wealth n _ _ (s 14 a0.toNat) (s 15 a0.toNat) a1 (s 17 a0.toNat) hR g2 g3 g4 ?_
  refine G_call rfl rfl ?_
  obtain ⟨g5, h⟩ := h
  refine c_X1_burns n _ _ (s 14 a0.toNat) (wlt (s 14 a0.toNat) (s 15 a0.toNat) a1 (s 17 a0.toNat)) hR g5 ?_
  exact G_ret rfl rfl h
theorem c_X5_burnsHolding_13 (n : Nat) (s : Nat → Nat → Int) (Q : List Vl → Sto → Prop) (i c : Int) (hR : refs s) (g1 : 0 ≤ i ∧ i < 6) (g2 : rgP (vw 14 s) i.toNat) (g3 : 0 ≤ c ∧ c ≤ 2000) (hq : Q [(1, bnV (vw 14 s) i.toNat c)] (n, s)) : G 2 120 26 0 [(3, 13), (1, i), (1, c)] [] (n, s) Q :=
  sb_X5_burnsHolding_0_13 n s Q i c hR ⟨g1, g2.1, g3, g2.2, wlt_rg g2.1 g3 g2.2, hq⟩
theorem sb_X5_lastsHolding_0_3 (n : Nat) (s : Nat → Nat → Int) (Q : List Vl → Sto → Prop) (a0 : Int) (a1 : Int) (hR : refs s)
    (h : (0 ≤ a0 ∧ a0 < 6) ∧ ((rgP (vw 4 s) a0.toNat) ∧ ((0 ≤ a1 ∧ a1 ≤ 2000) ∧ ((1 ≤ bnV (vw 4 s) a0.toNat a1 → (bnV (vw 4 s) a0.toNat a1 ≠ 0) ∧ (Q [(1, min 99 (xdiv (wr ((wr ((s 8 a0.toNat) + (bnV (vw 4 s) a0.toNat a1))) - 1)) (bnV (vw 4 s) a0.toNat a1)))] (n, s))) ∧ (bnV (vw 4 s) a0.toNat a1 < 1 → Q [(1, 99)] (n, s)))))) :
    G 2 120 53 0 [(3, 3), (1, a0), (1, a1), (0, 0)] [] (n, s) Q := by
  refine G_go rfl rfl ?_
  refine G_go rfl rfl ?_
  refine G_go rfl rfl ?_
  refine G_call rfl rfl ?_
  obtain ⟨g1, h⟩ := h
  obtain ⟨g2, h⟩ := h
  obtain ⟨g3, h⟩ := h
  refine c_X5_burnsHolding_3 n _ _ a0 a1 hR g1 g2 g3 ?_
  refine G_go rfl rfl ?_
  refine G_go rfl rfl ?_
  refine G_go rfl rfl ?_
  refine G_ge rfl rfl (fun c4 => ?_) (fun c4 => ?_)
  · have h := h.1 c4
    refine G_go rfl rfl ?_
    refine G_go rfl rfl ?_
    refine G_rf rfl rfl (by decide) (hR 3 4 8 rfl) ?_
    refine G_go rfl rfl ?_
    refine G_ir (n := 6) rfl rfl (by decide) (by decide) g1 ?_
    refine G_go rfl rfl ?_
    refine G_go rfl rfl ?_
    refine G_go rfl rfl ?_
    refine G_go rfl rfl ?_
    refine G_go rfl rfl ?_
    obtain ⟨g5, h⟩ := h
    refine G_idiv rfl g5 ?_
    refine G_min rfl rfl ?_
    exact G_ret rfl rfl h
  · have h := h.2 c4
    refine G_go rfl rfl ?_
    exact G_ret rfl rfl h
theorem sb_X5_lastsHolding_0_13 (n : Nat) (s : Nat → Nat → Int) (Q : List Vl → Sto → Prop) (a0 : Int) (a1 : Int) (hR : refs s)
    (h : (0 ≤ a0 ∧ a0 < 6) ∧ ((rgP (vw 14 s) a0.toNat) ∧ ((0 ≤ a1 ∧ a1 ≤ 2000) ∧ ((1 ≤ bnV (vw 14 s) a0.toNat a1 → (bnV (vw 14 s) a0.toNat a1 ≠ 0) ∧ (Q [(1, min 99 (xdiv (wr ((wr ((s 18 a0.toNat) + (bnV (vw 14 s) a0.toNat a1))) - 1)) (bnV (vw 14 s) a0.toNat a1)))] (n, s))) ∧ (bnV (vw 14 s) a0.toNat a1 < 1 → Q [(1, 99)] (n, s)))))) :
    G 2 120 53 0 [(3, 13), (1, a0), (1, a1), (0, 0)] [] (n, s) Q := by
  refine G_go rfl rfl ?_
  refine G_go rfl rfl ?_
  refine G_go rfl rfl ?_
  refine G_call rfl rfl ?_
  obtain ⟨g1, h⟩ := h
  obtain ⟨g2, h⟩ := h
  obtain ⟨g3, h⟩ := h
  refine c_X5_burnsHolding_13 n _ _ a0 a1 hR g1 g2 g3 ?_
  refine G_go rfl rfl ?_
  refine G_go rfl rfl ?_
  refine G_go rfl rfl ?_
  refine G_ge rfl rfl (fun c4 => ?_) (fun c4 => ?_)
  · have h := h.1 c4
    refine G_go rfl rfl ?_
    refine G_go rfl rfl ?_
    refine G_rf rfl rfl (by decide) (hR 13 4 18 rfl) ?_
    refine G_go rfl rfl ?_
    refine G_ir (n := 6) rfl rfl (by decide) (by decide) g1 ?_
    refine G_go rfl rfl ?_
    refine G_go rfl rfl ?_
    refine G_go rfl rfl ?_
    refine G_go rfl rfl ?_
    refine G_go rfl rfl ?_
    obtain ⟨g5, h⟩ := h
    refine G_idiv rfl g5 ?_
    refine G_min rfl rfl ?_
    exact G_ret rfl rfl h
  · have h := h.2 c4
    refine G_go rfl rfl ?_
    exact G_ret rfl rfl h
theorem lst_eq {c b : Int} (g : 0 ≤ c ∧ c ≤ 99) (h : 1 ≤ b ∧ b ≤ 2001) : xdiv (wr (wr (c + b) - 1)) b = lst c b := by
  simp (disch := omega) only [wr_id, xdiv_nn]
  rfl
theorem c_X5_lastsHolding_3 (n : Nat) (s : Nat → Nat → Int) (Q : List Vl → Sto → Prop) (i c : Int) (hR : refs s) (g1 : 0 ≤ i ∧ i < 6) (g2 : rgP (vw 4 s) i.toNat) (g3 : 0 ≤ c ∧ c ≤ 2000) (g4 : 0 ≤ vw 4 s 4 i.toNat ∧ vw 4 s 4 i.toNat ≤ 99) (hq : Q [(1, lsV (vw 4 s) i.toNat c)] (n, s)) : G 2 120 53 0 [(3, 3), (1, i), (1, c), (0, 0)] [] (n, s) Q := by
  have hb := bnV_rg g2 g3
  have g5 : 0 ≤ s 8 i.toNat ∧ s 8 i.toNat ≤ 99 := g4
  have hl := lst_rg g5 hb.1
  refine sb_X5_lastsHolding_0_3 n s Q i c hR ⟨g1, g2, g3, fun e => ⟨by omega, Qe hq ?_⟩, fun e => by exfalso; omega⟩
  rw [lst_eq g5 hb]
  show min 99 (lst (s 8 i.toNat) (bnV (vw 4 s) i.toNat c)) = lst (s 8 i.toNat) (bnV (vw 4 s) i.toNat c)
  omega
theorem c_X5_lastsHolding_13 (n : Nat) (s : Nat → Nat → Int) (Q : List Vl → Sto → Prop) (i c : Int) (hR : refs s) (g1 : 0 ≤ i ∧ i < 6) (g2 : rgP (vw 14 s) i.toNat) (g3 : 0 ≤ c ∧ c ≤ 2000) (g4 : 0 ≤ vw 14 s 4 i.toNat ∧ vw 14 s 4 i.toNat ≤ 99) (hq : Q [(1, lsV (vw 14 s) i.toNat c)] (n, s)) : G 2 120 53 0 [(3, 13), (1, i), (1, c), (0, 0)] [] (n, s) Q := by
  have hb := bnV_rg g2 g3
  have g5 : 0 ≤ s 18 i.toNat ∧ s 18 i.toNat ≤ 99 := g4
  have hl := lst_rg g5 hb.1
  refine sb_X5_lastsHolding_0_13 n s Q i c hR ⟨g1, g2, g3, fun e => ⟨by omega, Qe hq ?_⟩, fun e => by exfalso; omega⟩
  rw [lst_eq g5 hb]
  show min 99 (lst (s 18 i.toNat) (bnV (vw 14 s) i.toNat c)) = lst (s 18 i.toNat) (bnV (vw 14 s) i.toNat c)
  omega
theorem sb_X7_wealthOf_0 (n : Nat) (s : Nat → Nat → Int) (Q : List Vl → Sto → Prop) (a0 : Int) (hR : refs s)
    (h : (0 ≤ a0 ∧ a0 < 6) ∧ ((s 121 a0.toNat = 1 → Q [(1, wr ((wr ((s 123 a0.toNat) + (s 124 a0.toNat))) + 10))] (n, s)) ∧ (s 121 a0.toNat = 2 → (xdiv (wr ((s 123 a0.toNat) + (s 124 a0.toNat))) 2 ≤ s 122 a0.toNat → Q [(1, 0)] (n, s)) ∧ (s 122 a0.toNat < xdiv (wr ((s 123 a0.toNat) + (s 124 a0.toNat))) 2 → Q [(1, wr ((xdiv (wr ((s 123 a0.toNat) + (s 124 a0.toNat))) 2) - (s 122 a0.toNat)))] (n, s))) ∧ (s 121 a0.toNat = 3 → Q [(1, wr ((wr ((s 123 a0.toNat) + (s 124 a0.toNat))) + (s 124 a0.toNat)))] (n, s)) ∧ (s 121 a0.toNat = 4 → Q [(1, wr ((wr ((wr ((s 123 a0.toNat) + (s 124 a0.toNat))) + 10)) - (xdiv (s 123 a0.toNat) 2)))] (n, s)) ∧ (s 121 a0.toNat = 5 → Q [(1, s 122 a0.toNat)] (n, s)) ∧ (s 121 a0.toNat < 1 ∨ 5 < s 121 a0.toNat → Q [(1, wr ((s 123 a0.toNat) + (s 124 a0.toNat)))] (n, s)))) :
    G 120 140 136 0 [(3, 120), (1, a0), (0, 0)] [] (n, s) Q := by
  refine G_go rfl rfl ?_
  refine G_rf rfl rfl (by decide) (hR 120 3 123 rfl) ?_
  refine G_go rfl rfl ?_
  obtain ⟨g1, h⟩ := h
  refine G_ir (n := 6) rfl rfl (by decide) (by decide) g1 ?_
  refine G_go rfl rfl ?_
  refine G_rf rfl rfl (by decide) (hR 120 4 124 rfl) ?_
  refine G_go rfl rfl ?_
  refine G_ir (n := 6) rfl rfl (by decide) (by decide) g1 ?_
  refine G_go rfl rfl ?_
  refine G_go rfl rfl ?_
  refine G_go rfl rfl ?_
  refine G_rf rfl rfl (by decide) (hR 120 1 121 rfl) ?_
  refine G_go rfl rfl ?_
  refine G_ir (n := 6) rfl rfl (by decide) (by decide) g1 ?_
  by_cases hs20_0 : s 121 a0.toNat = 1
  · refine G_k hs20_0 rfl rfl ?_
    have h := h.1 hs20_0
    refine G_go rfl rfl ?_
    refine G_go rfl rfl ?_
    refine G_go rfl rfl ?_
    exact G_ret rfl rfl h
  replace h := h.2
  by_cases hs20_1 : s 121 a0.toNat = 2
  · refine G_k hs20_1 rfl rfl ?_
    have h := h.1 hs20_1
    refine G_go rfl rfl ?_
    refine G_go rfl rfl ?_
    refine G_go rfl rfl ?_
    refine G_go rfl rfl ?_
    refine G_rf rfl rfl (by decide) (hR 120 2 122 rfl) ?_
    refine G_go rfl rfl ?_
    refine G_ir (n := 6) rfl rfl (by decide) (by decide) g1 ?_
    refine G_le rfl rfl (fun c2 => ?_) (fun c2 => ?_)
    · have h := h.1 c2
      refine G_go rfl rfl ?_
      exact G_ret rfl rfl h
    · have h := h.2 c2
      refine G_go rfl rfl ?_
      refine G_go rfl rfl ?_
      refine G_go rfl rfl ?_
      refine G_go rfl rfl ?_
      refine G_rf rfl rfl (by decide) (hR 120 2 122 rfl) ?_
      refine G_go rfl rfl ?_
      refine G_ir (n := 6) rfl rfl (by decide) (by decide) g1 ?_
      refine G_go rfl rfl ?_
      refine G_go rfl rfl ?_
      exact G_ret rfl rfl h
  replace h := h.2
  by_cases hs20_2 : s 121 a0.toNat = 3
  · refine G_k hs20_2 rfl rfl ?_
    have h := h.1 hs20_2
    refine G_go rfl rfl ?_
    refine G_go rfl rfl ?_
    refine G_rf rfl rfl (by decide) (hR 120 4 124 rfl) ?_
    refine G_go rfl rfl ?_
    refine G_ir (n := 6) rfl rfl (by decide) (by decide) g1 ?_
    refine G_go rfl rfl ?_
    exact G_ret rfl rfl h
  replace h := h.2
  by_cases hs20_3 : s 121 a0.toNat = 4
  · refine G_k hs20_3 rfl rfl ?_
    have h := h.1 hs20_3
    refine G_go rfl rfl ?_
    refine G_go rfl rfl ?_
    refine G_go rfl rfl ?_
    refine G_go rfl rfl ?_
    refine G_rf rfl rfl (by decide) (hR 120 3 123 rfl) ?_
    refine G_go rfl rfl ?_
    refine G_ir (n := 6) rfl rfl (by decide) (by decide) g1 ?_
    refine G_go rfl rfl ?_
    refine G_go rfl rfl ?_
    refine G_go rfl rfl ?_
    exact G_ret rfl rfl h
  replace h := h.2
  by_cases hs20_4 : s 121 a0.toNat = 5
  · refine G_k hs20_4 rfl rfl ?_
    have h := h.1 hs20_4
    refine G_go rfl rfl ?_
    refine G_rf rfl rfl (by decide) (hR 120 2 122 rfl) ?_
    refine G_go rfl rfl ?_
    refine G_ir (n := 6) rfl rfl (by decide) (by decide) g1 ?_
    exact G_ret rfl rfl h
  replace h := h.2
  have hd20 : s 121 a0.toNat < 1 ∨ 5 < s 121 a0.toNat := by omega
  refine G_tsd rfl rfl hd20 ?_
  replace h := h hd20
  refine G_go rfl rfl ?_
  exact G_ret rfl rfl h
theorem sb_X7_isHonest_0 (n : Nat) (s : Nat → Nat → Int) (Q : List Vl → Sto → Prop) (a0 : Int) (hR : refs s)
    (h : (0 ≤ a0 ∧ a0 < 6) ∧ ((s 121 a0.toNat = 1 → Q [(1, 1)] (n, s)) ∧ (s 121 a0.toNat = 2 → (s 122 a0.toNat < 4 → Q [(1, 0)] (n, s)) ∧ (4 ≤ s 122 a0.toNat → Q [(1, 1)] (n, s))) ∧ (s 121 a0.toNat = 3 → Q [(1, 0)] (n, s)) ∧ (s 121 a0.toNat = 4 → Q [(1, 1)] (n, s)) ∧ (s 121 a0.toNat = 5 → Q [(1, 1)] (n, s)) ∧ (s 121 a0.toNat < 1 ∨ 5 < s 121 a0.toNat → (s 122 a0.toNat < 4 → Q [(1, 0)] (n, s)) ∧ (4 ≤ s 122 a0.toNat → Q [(1, 1)] (n, s))))) :
    G 120 140 167 0 [(3, 120), (1, a0)] [] (n, s) Q := by
  refine G_go rfl rfl ?_
  refine G_rf rfl rfl (by decide) (hR 120 1 121 rfl) ?_
  refine G_go rfl rfl ?_
  obtain ⟨g1, h⟩ := h
  refine G_ir (n := 6) rfl rfl (by decide) (by decide) g1 ?_
  by_cases hs6_0 : s 121 a0.toNat = 1
  · refine G_k hs6_0 rfl rfl ?_
    have h := h.1 hs6_0
    refine G_go rfl rfl ?_
    exact G_ret rfl rfl h
  replace h := h.2
  by_cases hs6_1 : s 121 a0.toNat = 2
  · refine G_k hs6_1 rfl rfl ?_
    have h := h.1 hs6_1
    refine G_go rfl rfl ?_
    refine G_rf rfl rfl (by decide) (hR 120 2 122 rfl) ?_
    refine G_go rfl rfl ?_
    refine G_ir (n := 6) rfl rfl (by decide) (by decide) g1 ?_
    refine G_go rfl rfl ?_
    refine G_lt rfl rfl (fun c2 => ?_) (fun c2 => ?_)
    · have h := h.1 c2
      refine G_go rfl rfl ?_
      exact G_ret rfl rfl h
    · have h := h.2 c2
      refine G_go rfl rfl ?_
      refine G_go rfl rfl ?_
      exact G_ret rfl rfl h
  replace h := h.2
  by_cases hs6_2 : s 121 a0.toNat = 3
  · refine G_k hs6_2 rfl rfl ?_
    have h := h.1 hs6_2
    refine G_go rfl rfl ?_
    exact G_ret rfl rfl h
  replace h := h.2
  by_cases hs6_3 : s 121 a0.toNat = 4
  · refine G_k hs6_3 rfl rfl ?_
    have h := h.1 hs6_3
    refine G_go rfl rfl ?_
    exact G_ret rfl rfl h
  replace h := h.2
  by_cases hs6_4 : s 121 a0.toNat = 5
  · refine G_k hs6_4 rfl rfl ?_
    have h := h.1 hs6_4
    refine G_go rfl rfl ?_
    exact G_ret rfl rfl h
  replace h := h.2
  have hd6 : s 121 a0.toNat < 1 ∨ 5 < s 121 a0.toNat := by omega
  refine G_tsd rfl rfl hd6 ?_
  replace h := h hd6
  refine G_go rfl rfl ?_
  refine G_rf rfl rfl (by decide) (hR 120 2 122 rfl) ?_
  refine G_go rfl rfl ?_
  refine G_ir (n := 6) rfl rfl (by decide) (by decide) g1 ?_
  refine G_go rfl rfl ?_
  refine G_lt rfl rfl (fun c3 => ?_) (fun c3 => ?_)
  · have h := h.1 c3
    refine G_go rfl rfl ?_
    exact G_ret rfl rfl h
  · have h := h.2 c3
    refine G_go rfl rfl ?_
    refine G_go rfl rfl ?_
    exact G_ret rfl rfl h
theorem sb_X7_least_0 (n : Nat) (s : Nat → Nat → Int) (Q : List Vl → Sto → Prop) (a0 : Int) (a1 : Int) (hR : refs s)
    (h : (a1 ≤ a0 → Q [(1, a1)] (n, s)) ∧ (a0 < a1 → Q [(1, a0)] (n, s))) :
    G 120 140 144 0 [(1, a0), (1, a1)] [] (n, s) Q := by
  refine G_go rfl rfl ?_
  refine G_go rfl rfl ?_
  refine G_ge rfl rfl (fun c1 => ?_) (fun c1 => ?_)
  · have h := h.1 c1
    refine G_go rfl rfl ?_
    exact G_ret rfl rfl h
  · have h := h.2 c1
    refine G_go rfl rfl ?_
    refine G_go rfl rfl ?_
    exact G_ret rfl rfl h
theorem c_X7_least (n : Nat) (s : Nat → Nat → Int) (Q : List Vl → Sto → Prop) (a b : Int) (hR : refs s) (hq : Q [(1, min a b)] (n, s)) : G 120 140 144 0 [(1, a), (1, b)] [] (n, s) Q :=
  sb_X7_least_0 n s Q a b hR ⟨fun e => Qe hq (by omega), fun e => Qe hq (by omega)⟩
theorem c_X7_wealthOf (n : Nat) (s : Nat → Nat → Int) (Q : List Vl → Sto → Prop) (p : Int) (hR : refs s) (g1 : 0 ≤ p ∧ p < 6) (g2 : rgP (vw 121 s) p.toNat) (g3 : 0 ≤ vw 121 s 2 p.toNat ∧ vw 121 s 2 p.toNat ≤ 2000) (hq : Q [(1, wlW (vw 121 s) p.toNat)] (n, s)) : G 120 140 136 0 [(3, 120), (1, p), (0, 0)] [] (n, s) Q := by
  have h1 : 0 ≤ s 122 p.toNat ∧ s 122 p.toNat ≤ 9 := g2.1
  have h2 : 0 ≤ s 124 p.toNat ∧ s 124 p.toNat ≤ 200 := g2.2
  have h3 : 0 ≤ s 123 p.toNat ∧ s 123 p.toNat ≤ 2000 := g3
  have hq : Q [(1, wlt (s 121 p.toNat) (s 122 p.toNat) (s 123 p.toNat) (s 124 p.toNat))] (n, s) := hq
  refine sb_X7_wealthOf_0 n s Q p hR ⟨g1, fun e => ?_, fun e => ⟨fun e2 => ?_, fun e2 => ?_⟩, fun e => ?_, fun e => ?_, fun e => ?_, fun e => ?_⟩
  all_goals refine Qe hq ?_
  all_goals try simp (disch := omega) only [wr_id, xdiv_nn] at e2
  all_goals try simp (disch := omega) only [wr_id, xdiv_nn]
  all_goals unfold wlt
  all_goals repeat' split
  all_goals omega
theorem c_X7_isHonest (n : Nat) (s : Nat → Nat → Int) (Q : List Vl → Sto → Prop) (p : Int) (hR : refs s) (g1 : 0 ≤ p ∧ p < 6) (hq : Q [(1, hnW (vw 121 s) p.toNat)] (n, s)) : G 120 140 167 0 [(3, 120), (1, p)] [] (n, s) Q := by
  have hq : Q [(1, hon (s 121 p.toNat) (s 122 p.toNat))] (n, s) := hq
  refine sb_X7_isHonest_0 n s Q p hR ⟨g1, fun e => ?_, fun e => ⟨fun e2 => ?_, fun e2 => ?_⟩, fun e => ?_, fun e => ?_, fun e => ?_, fun e => ⟨fun e2 => ?_, fun e2 => ?_⟩⟩
  all_goals refine Qe hq ?_
  all_goals unfold hon
  all_goals repeat' split
  all_goals omega
theorem sb_X7_burnsOf_0 (n : Nat) (s : Nat → Nat → Int) (Q : List Vl → Sto → Prop) (a0 : Int) (hR : refs s)
    (h : (0 ≤ a0 ∧ a0 < 6) ∧ ((s 121 a0.toNat = 1 → (rgP (vw 121 s) a0.toNat) ∧ ((0 ≤ vw 121 s 2 a0.toNat ∧ vw 121 s 2 a0.toNat ≤ 2000) ∧ (Q [(1, wr (2 + (xdiv (wlW (vw 121 s) a0.toNat) 10)))] (n, s)))) ∧ (s 121 a0.toNat = 2 → (rgP (vw 121 s) a0.toNat) ∧ ((0 ≤ vw 121 s 2 a0.toNat ∧ vw 121 s 2 a0.toNat ≤ 2000) ∧ (Q [(1, wr (1 + (xdiv (wlW (vw 121 s) a0.toNat) 10)))] (n, s)))) ∧ (s 121 a0.toNat = 3 → (rgP (vw 121 s) a0.toNat) ∧ ((0 ≤ vw 121 s 2 a0.toNat ∧ vw 121 s 2 a0.toNat ≤ 2000) ∧ (Q [(1, wr (1 + (xdiv (wlW (vw 121 s) a0.toNat) 5)))] (n, s)))) ∧ (s 121 a0.toNat = 4 → (rgP (vw 121 s) a0.toNat) ∧ ((0 ≤ vw 121 s 2 a0.toNat ∧ vw 121 s 2 a0.toNat ≤ 2000) ∧ (Q [(1, wr (2 + (xdiv (wlW (vw 121 s) a0.toNat) 10)))] (n, s)))) ∧ (s 121 a0.toNat = 5 → Q [(1, 1)] (n, s)) ∧ (s 121 a0.toNat < 1 ∨ 5 < s 121 a0.toNat → (rgP (vw 121 s) a0.toNat) ∧ ((0 ≤ vw 121 s 2 a0.toNat ∧ vw 121 s 2 a0.toNat ≤ 2000) ∧ (Q [(1, wr (1 + (xdiv (wlW (vw 121 s) a0.toNat) 10)))] (n, s)))))) :
    G 120 140 145 0 [(3, 120), (1, a0)] [] (n, s) Q := by
  refine G_go rfl rfl ?_
  refine G_rf rfl rfl (by decide) (hR 120 1 121 rfl) ?_
  refine G_go rfl rfl ?_
  obtain ⟨g1, h⟩ := h
  refine G_ir (n := 6) rfl rfl (by decide) (by decide) g1 ?_
  by_cases hs6_0 : s 121 a0.toNat = 1
  · refine G_k hs6_0 rfl rfl ?_
    have h := h.1 hs6_0
    refine G_go rfl rfl ?_
    refine G_go rfl rfl ?_
    refine G_go rfl rfl ?_
    refine G_call rfl rfl ?_
    obtain ⟨g2, h⟩ := h
    obtain ⟨g3, h⟩ := h
    refine c_X7_wealthOf n _ _ a0 hR g1 g2 g3 ?_
    refine G_go rfl rfl ?_
    refine G_go rfl rfl ?_
    refine G_go rfl rfl ?_
    exact G_ret rfl rfl h
  replace h := h.2
  by_cases hs6_1 : s 121 a0.toNat = 2
  · refine G_k hs6_1 rfl rfl ?_
    have h := h.1 hs6_1
    refine G_go rfl rfl ?_
    refine G_go rfl rfl ?_
    refine G_go rfl rfl ?_
    refine G_call rfl rfl ?_
    obtain ⟨g4, h⟩ := h
    obtain ⟨g5, h⟩ := h
    refine c_X7_wealthOf n _ _ a0 hR g1 g4 g5 ?_
    refine G_go rfl rfl ?_
    refine G_go rfl rfl ?_
    refine G_go rfl rfl ?_
    exact G_ret rfl rfl h
  replace h := h.2
  by_cases hs6_2 : s 121 a0.toNat = 3
  · refine G_k hs6_2 rfl rfl ?_
    have h := h.1 hs6_2
    refine G_go rfl rfl ?_
    refine G_go rfl rfl ?_
    refine G_go rfl rfl ?_
    refine G_call rfl rfl ?_
    obtain ⟨g6, h⟩ := h
    obtain ⟨g7, h⟩ := h
    refine c_X7_wealthOf n _ _ a0 hR g1 g6 g7 ?_
    refine G_go rfl rfl ?_
    refine G_go rfl rfl ?_
    refine G_go rfl rfl ?_
    exact G_ret rfl rfl h
  replace h := h.2
  by_cases hs6_3 : s 121 a0.toNat = 4
  · refine G_k hs6_3 rfl rfl ?_
    have h := h.1 hs6_3
    refine G_go rfl rfl ?_
    refine G_go rfl rfl ?_
    refine G_go rfl rfl ?_
    refine G_call rfl rfl ?_
    obtain ⟨g8, h⟩ := h
    obtain ⟨g9, h⟩ := h
    refine c_X7_wealthOf n _ _ a0 hR g1 g8 g9 ?_
    refine G_go rfl rfl ?_
    refine G_go rfl rfl ?_
    refine G_go rfl rfl ?_
    exact G_ret rfl rfl h
  replace h := h.2
  by_cases hs6_4 : s 121 a0.toNat = 5
  · refine G_k hs6_4 rfl rfl ?_
    have h := h.1 hs6_4
    refine G_go rfl rfl ?_
    exact G_ret rfl rfl h
  replace h := h.2
  have hd6 : s 121 a0.toNat < 1 ∨ 5 < s 121 a0.toNat := by omega
  refine G_tsd rfl rfl hd6 ?_
  replace h := h hd6
  refine G_go rfl rfl ?_
  refine G_go rfl rfl ?_
  refine G_go rfl rfl ?_
  refine G_call rfl rfl ?_
  obtain ⟨g10, h⟩ := h
  obtain ⟨g11, h⟩ := h
  refine c_X7_wealthOf n _ _ a0 hR g1 g10 g11 ?_
  refine G_go rfl rfl ?_
  refine G_go rfl rfl ?_
  refine G_go rfl rfl ?_
  exact G_ret rfl rfl h
theorem c_X7_burnsOf (n : Nat) (s : Nat → Nat → Int) (Q : List Vl → Sto → Prop) (p : Int) (hR : refs s) (g1 : 0 ≤ p ∧ p < 6) (g2 : rgP (vw 121 s) p.toNat) (g3 : 0 ≤ vw 121 s 2 p.toNat ∧ vw 121 s 2 p.toNat ≤ 2000) (hq : Q [(1, bnW (vw 121 s) p.toNat)] (n, s)) : G 120 140 145 0 [(3, 120), (1, p)] [] (n, s) Q := by
  have hw : 0 ≤ wlW (vw 121 s) p.toNat ∧ wlW (vw 121 s) p.toNat ≤ 9999 := wlt_rg g2.1 g3 g2.2
  have hq : Q [(1, bns (s 121 p.toNat) (wlW (vw 121 s) p.toNat))] (n, s) := hq
  refine sb_X7_burnsOf_0 n s Q p hR ⟨g1, fun e => ⟨g2, g3, ?_⟩, fun e => ⟨g2, g3, ?_⟩, fun e => ⟨g2, g3, ?_⟩, fun e => ⟨g2, g3, ?_⟩, fun e => ?_, fun e => ⟨g2, g3, ?_⟩⟩
  all_goals refine Qe hq ?_
  all_goals try simp (disch := omega) only [wr_id, xdiv_nn]
  all_goals unfold bns
  all_goals repeat' split
  all_goals omega
theorem sb_X7_lastsOf_0 (n : Nat) (s : Nat → Nat → Int) (Q : List Vl → Sto → Prop) (a0 : Int) (hR : refs s)
    (h : (0 ≤ a0 ∧ a0 < 6) ∧ ((rgP (vw 121 s) a0.toNat) ∧ ((0 ≤ vw 121 s 2 a0.toNat ∧ vw 121 s 2 a0.toNat ≤ 2000) ∧ ((bnW (vw 121 s) a0.toNat ≠ 0) ∧ (Q [(1, xdiv (wr ((wr ((s 125 a0.toNat) + (bnW (vw 121 s) a0.toNat))) - 1)) (bnW (vw 121 s) a0.toNat))] (n, s)))))) :
    G 120 140 159 0 [(3, 120), (1, a0), (0, 0)] [] (n, s) Q := by
  refine G_go rfl rfl ?_
  refine G_go rfl rfl ?_
  refine G_call rfl rfl ?_
  obtain ⟨g1, h⟩ := h
  obtain ⟨g2, h⟩ := h
  obtain ⟨g3, h⟩ := h
  refine c_X7_burnsOf n _ _ a0 hR g1 g2 g3 ?_
  refine G_go rfl rfl ?_
  refine G_go rfl rfl ?_
  refine G_rf rfl rfl (by decide) (hR 120 5 125 rfl) ?_
  refine G_go rfl rfl ?_
  refine G_ir (n := 6) rfl rfl (by decide) (by decide) g1 ?_
  refine G_go rfl rfl ?_
  refine G_go rfl rfl ?_
  refine G_go rfl rfl ?_
  refine G_go rfl rfl ?_
  refine G_go rfl rfl ?_
  obtain ⟨g4, h⟩ := h
  refine G_idiv rfl g4 ?_
  exact G_ret rfl rfl h
theorem c_X7_lastsOf (n : Nat) (s : Nat → Nat → Int) (Q : List Vl → Sto → Prop) (p : Int) (hR : refs s) (g1 : 0 ≤ p ∧ p < 6) (g2 : rgP (vw 121 s) p.toNat) (g3 : 0 ≤ vw 121 s 2 p.toNat ∧ vw 121 s 2 p.toNat ≤ 2000) (g4 : 0 ≤ vw 121 s 4 p.toNat ∧ vw 121 s 4 p.toNat ≤ 99) (hq : Q [(1, lsW (vw 121 s) p.toNat)] (n, s)) : G 120 140 159 0 [(3, 120), (1, p), (0, 0)] [] (n, s) Q := by
  have hb : 1 ≤ bnW (vw 121 s) p.toNat ∧ bnW (vw 121 s) p.toNat ≤ 2001 := bnV_rg g2 g3
  have g5 : 0 ≤ s 125 p.toNat ∧ s 125 p.toNat ≤ 99 := g4
  refine sb_X7_lastsOf_0 n s Q p hR ⟨g1, g2, g3, by omega, Qe hq ?_⟩
  rw [lst_eq g5 hb]
  rfl
end
section
/-! WHAT THE CLASS'S CELLS AND THE REFERENCE'S CELLS HAVE TO DO WITH EACH OTHER. -/
/-- a town laid flat, as the reference keeps it -/
def fw (a off : Nat) (t : Nat → Nat → Int) : Nat → Nat → Int := fun k p => t a (off + 2 + 8 * p + k)
def okV (np : Int) (V : Nat → Nat → Int) : Prop := ∀ p : Nat, (p : Int) < np → (0 ≤ V 0 p ∧ V 0 p ≤ 5) ∧ (0 ≤ V 1 p ∧ V 1 p ≤ 9) ∧ (0 ≤ V 2 p ∧ V 2 p ≤ 999) ∧ (0 ≤ V 3 p ∧ V 3 p ≤ 99) ∧ (0 ≤ V 4 p ∧ V 4 p ≤ 99) ∧ (V 5 p = 0 ∨ V 5 p = 1) ∧ (0 ≤ V 6 p ∧ V 6 p ≤ 999) ∧ (V 7 p = -9 ∨ (0 ≤ V 7 p ∧ V 7 p < np ∧ V 7 p ≠ (p : Int)))
def eqV (np : Int) (C V : Nat → Nat → Int) : Prop := ∀ p : Nat, (p : Int) < np → C 0 p = V 0 p ∧ C 1 p = V 1 p ∧ C 2 p = V 2 p ∧ C 3 p = V 3 p ∧ C 4 p = V 4 p ∧ C 5 p = V 5 p ∧ C 6 p = V 6 p ∧ ((V 7 p = -9 ∧ C 7 p = -1) ∨ (0 ≤ V 7 p ∧ C 7 p = V 7 p))
/-- a town of the class's (how many, hour, rows) and one of the reference's -/
def rlT (cn ch : Int) (C : Nat → Nat → Int) (vn vh : Int) (V : Nat → Nat → Int) : Prop := cn = vn ∧ ch = vh ∧ (0 ≤ vn ∧ vn ≤ 6) ∧ (0 ≤ vh ∧ vh ≤ 999) ∧ okV vn V ∧ eqV vn C V
def relN (s t : Nat → Nat → Int) : Prop := rlT (s 3 9) (s 3 10) (vw 4 s) (t 120 0) (t 120 9) (vw 121 t)
def relI (s t : Nat → Nat → Int) : Prop := (s 2 3 = 0 ∧ t 120 23 = 0) ∨ (s 2 3 = 1 ∧ t 120 23 = 1 ∧ rlT (s 23 9) (s 23 10) (vw 24 s) (t 136 0) (t 136 1) (fw 136 0 t))
/-- the place of the j-th kept town, of those that can be taken back -/
def slt (s : Nat → Nat → Int) (j : Nat) : Nat := 35 + 10 * (((s 33 1).toNat + j) % 8)
def relH (s t : Nat → Nat → Int) : Prop := s 33 2 = t 120 29 ∧ (0 ≤ s 33 2 ∧ s 33 2 ≤ 8) ∧ (0 ≤ s 33 1 ∧ s 33 1 < 8) ∧ ∀ j : Nat, (j : Int) < s 33 2 → rlT (s (slt s j) 9) (s (slt s j) 10) (vw (slt s j + 1) s) (t 137 (50 * j)) (t 137 (50 * j + 1)) (fw 137 (50 * j) t)
def relL (s t : Nat → Nat → Int) : Prop := s 115 1 = t 120 14 ∧ (0 ≤ s 115 1 ∧ s 115 1 ≤ 96) ∧ ∀ k : Nat, (k : Int) < s 115 1 → s 116 k = t 131 k ∧ 0 ≤ s 116 k ∧ s 116 k ≤ 255
def relR (s t : Nat → Nat → Int) : Prop := s 117 1 = t 120 31 ∧ (0 ≤ s 117 1 ∧ s 117 1 ≤ 12) ∧ ∀ k : Nat, (k : Int) < s 117 1 → s 118 k = t 139 k ∧ 0 ≤ s 118 k ∧ s 118 k ≤ 99
def relF (s t : Nat → Nat → Int) : Prop := ∀ k : Nat, k < 7 → s 119 k = t 129 k
def REL (s t : Nat → Nat → Int) : Prop := refs s ∧ refs t ∧ relN s t ∧ relI s t ∧ relH s t ∧ relL s t ∧ relR s t ∧ relF s t
theorem upS_1 {f : Nat → Nat → Int} {a k a' k' : Nat} {x : Int} (h : a' ≠ a) : upS f a k x a' k' = f a' k' := by simp [upS, h]
theorem upS_2 {f : Nat → Nat → Int} {a k a' k' : Nat} {x : Int} (h : k' ≠ k) : upS f a k x a' k' = f a' k' := by simp [upS, h]
theorem vw_up {β : Nat} {s : Nat → Nat → Int} {a k : Nat} {x : Int} (h : a < β ∨ β + 8 ≤ a) : ∀ j, j < 8 → ∀ p, vw β (upS s a k x) j p = vw β s j p := by
  intro j hj p
  unfold vw
  exact upS_1 (by omega)
theorem okV_ext {np : Int} {V W : Nat → Nat → Int} (h : okV np V) (e : ∀ j, j < 8 → ∀ p : Nat, (p : Int) < np → W j p = V j p) : okV np W := by
  intro p hp
  rw [e 0 (by decide) p hp, e 1 (by decide) p hp, e 2 (by decide) p hp, e 3 (by decide) p hp, e 4 (by decide) p hp, e 5 (by decide) p hp, e 6 (by decide) p hp, e 7 (by decide) p hp]
  exact h p hp
theorem eqV_ext {np : Int} {C D V W : Nat → Nat → Int} (h : eqV np C V) (e : ∀ j, j < 8 → ∀ p : Nat, (p : Int) < np → D j p = C j p) (g : ∀ j, j < 8 → ∀ p : Nat, (p : Int) < np → W j p = V j p) : eqV np D W := by
  intro p hp
  rw [e 0 (by decide) p hp, e 1 (by decide) p hp, e 2 (by decide) p hp, e 3 (by decide) p hp, e 4 (by decide) p hp, e 5 (by decide) p hp, e 6 (by decide) p hp, e 7 (by decide) p hp, g 0 (by decide) p hp, g 1 (by decide) p hp, g 2 (by decide) p hp, g 3 (by decide) p hp, g 4 (by decide) p hp, g 5 (by decide) p hp, g 6 (by decide) p hp, g 7 (by decide) p hp]
  exact h p hp
theorem rlT_ext {cn ch dn dh vn vh wn wh : Int} {C D V W : Nat → Nat → Int} (h : rlT cn ch C vn vh V) (e1 : dn = cn) (e2 : dh = ch) (e3 : wn = vn) (e4 : wh = vh) (e : ∀ j, j < 8 → ∀ p : Nat, (p : Int) < vn → D j p = C j p) (g : ∀ j, j < 8 → ∀ p : Nat, (p : Int) < vn → W j p = V j p) : rlT dn dh D wn wh W := by
  subst e1; subst e2; subst e3; subst e4
  obtain ⟨h1, h2, h3, h4, h5, h6⟩ := h
  exact ⟨h1, h2, h3, h4, okV_ext h5 g, eqV_ext h6 e g⟩
/-- a method of the class's and one of the reference's, begun over cells that have to do with each other, answer alike, and so do the cells behind -/
def Post (n : Nat) (r : List Vl) (s1 : Sto) (r' : List Vl) (t1 : Sto) : Prop := ∃ v, r = [v] ∧ r' = [v] ∧ REL s1.2 t1.2 ∧ s1.1 = n ∧ t1.1 = n
theorem REL.n {s t : Nat → Nat → Int} (h : REL s t) : relN s t := h.2.2.1
theorem REL.i {s t : Nat → Nat → Int} (h : REL s t) : relI s t := h.2.2.2.1
theorem REL.h {s t : Nat → Nat → Int} (h : REL s t) : relH s t := h.2.2.2.2.1
theorem REL.l {s t : Nat → Nat → Int} (h : REL s t) : relL s t := h.2.2.2.2.2.1
theorem REL.r {s t : Nat → Nat → Int} (h : REL s t) : relR s t := h.2.2.2.2.2.2.1
theorem REL.f {s t : Nat → Nat → Int} (h : REL s t) : relF s t := h.2.2.2.2.2.2.2
theorem relN_fr {s t s1 t1 : Nat → Nat → Int} (h : relN s t) (a1 : s1 3 9 = s 3 9) (a2 : s1 3 10 = s 3 10) (a3 : ∀ a, 4 ≤ a → a < 12 → s1 a = s a) (b1 : t1 120 0 = t 120 0) (b2 : t1 120 9 = t 120 9) (b3 : ∀ a, 121 ≤ a → a < 129 → t1 a = t a) : relN s1 t1 :=
  rlT_ext h a1 a2 b1 b2 (fun j hj p _ => by unfold vw; rw [a3 (4 + j) (by omega) (by omega)]) (fun j hj p _ => by unfold vw; rw [b3 (121 + j) (by omega) (by omega)])
theorem relI_fr {s t s1 t1 : Nat → Nat → Int} (h : relI s t) (a1 : s1 2 3 = s 2 3) (a2 : s1 23 9 = s 23 9) (a3 : s1 23 10 = s 23 10) (a4 : ∀ a, 24 ≤ a → a < 32 → s1 a = s a) (b1 : t1 120 23 = t 120 23) (b2 : t1 136 = t 136) : relI s1 t1 := by
  rcases h with ⟨h1, h2⟩ | ⟨h1, h2, h3⟩
  · exact Or.inl ⟨by rw [a1]; exact h1, by rw [b1]; exact h2⟩
  · exact Or.inr ⟨by rw [a1]; exact h1, by rw [b1]; exact h2, rlT_ext h3 a2 a3 (by rw [b2]) (by rw [b2]) (fun j hj p _ => by unfold vw; rw [a4 (24 + j) (by omega) (by omega)]) (fun j hj p _ => by unfold fw; rw [b2])⟩
theorem relH_fr {s t s1 t1 : Nat → Nat → Int} (h : relH s t) (a1 : s1 33 1 = s 33 1) (a2 : s1 33 2 = s 33 2) (a3 : ∀ a, 35 ≤ a → a < 115 → s1 a = s a) (b1 : t1 120 29 = t 120 29) (b2 : t1 137 = t 137) : relH s1 t1 := by
  obtain ⟨hh1, hh2, hh3, hh4⟩ := h
  refine ⟨by rw [a2, b1]; exact hh1, by rw [a2]; exact hh2, by rw [a1]; exact hh3, fun j hj => ?_⟩
  rw [a2] at hj
  have e : slt s1 j = slt s j := by unfold slt; rw [a1]
  rw [e]
  have hm : ((s 33 1).toNat + j) % 8 < 8 := Nat.mod_lt _ (by decide)
  have hb : 35 ≤ slt s j ∧ slt s j < 106 := by unfold slt; omega
  exact rlT_ext (hh4 j hj) (by rw [a3 _ (by omega) (by omega)]) (by rw [a3 _ (by omega) (by omega)]) (by rw [b2]) (by rw [b2]) (fun i hi p _ => by unfold vw; rw [a3 _ (by omega) (by omega)]) (fun i hi p _ => by unfold fw; rw [b2])
theorem relL_fr {s t s1 t1 : Nat → Nat → Int} (h : relL s t) (a1 : s1 115 1 = s 115 1) (a2 : s1 116 = s 116) (b1 : t1 120 14 = t 120 14) (b2 : t1 131 = t 131) : relL s1 t1 := by
  obtain ⟨h1, h2, h3⟩ := h
  exact ⟨by rw [a1, b1]; exact h1, by rw [a1]; exact h2, fun k hk => by rw [a1] at hk; rw [a2, b2]; exact h3 k hk⟩
theorem relR_fr {s t s1 t1 : Nat → Nat → Int} (h : relR s t) (a1 : s1 117 1 = s 117 1) (a2 : s1 118 = s 118) (b1 : t1 120 31 = t 120 31) (b2 : t1 139 = t 139) : relR s1 t1 := by
  obtain ⟨h1, h2, h3⟩ := h
  exact ⟨by rw [a1, b1]; exact h1, by rw [a1]; exact h2, fun k hk => by rw [a1] at hk; rw [a2, b2]; exact h3 k hk⟩
theorem relF_fr {s t s1 t1 : Nat → Nat → Int} (h : relF s t) (a1 : s1 119 = s 119) (b1 : t1 129 = t 129) : relF s1 t1 := fun k hk => by rw [a1, b1]; exact h k hk
/-- REL speaks of the class's cells on the one side, of the reference's on the other -/
theorem REL_loc {s t s1 t1 : Nat → Nat → Int} (h : REL s t) (e : ∀ a, 2 ≤ a ∧ a < 120 → s1 a = s a) (f : ∀ a, 120 ≤ a ∧ a < 140 → t1 a = t a) (r1 : refs s1) (r2 : refs t1) : REL s1 t1 :=
  ⟨r1, r2, relN_fr h.n (by rw [e 3 (by decide)]) (by rw [e 3 (by decide)]) (fun a h1 h2 => e a ⟨by omega, by omega⟩) (by rw [f 120 (by decide)]) (by rw [f 120 (by decide)]) (fun a h1 h2 => f a ⟨by omega, by omega⟩),
    relI_fr h.i (by rw [e 2 (by decide)]) (by rw [e 23 (by decide)]) (by rw [e 23 (by decide)]) (fun a h1 h2 => e a ⟨by omega, by omega⟩) (by rw [f 120 (by decide)]) (f 136 (by decide)),
    relH_fr h.h (by rw [e 33 (by decide)]) (by rw [e 33 (by decide)]) (fun a h1 h2 => e a ⟨by omega, by omega⟩) (by rw [f 120 (by decide)]) (f 137 (by decide)),
    relL_fr h.l (by rw [e 115 (by decide)]) (e 116 (by decide)) (by rw [f 120 (by decide)]) (f 131 (by decide)),
    relR_fr h.r (by rw [e 117 (by decide)]) (e 118 (by decide)) (by rw [f 120 (by decide)]) (f 139 (by decide)), relF_fr h.f (e 119 (by decide)) (f 129 (by decide))⟩
end
section
/-! FROM A PAIR OF RUNS APART TO ONE RUN AFTER THE OTHER IN THE SAME CELLS. -/
theorem run_out {lo hi f m pc n n' : Nat} {L st r : List Vl} {s t : Nat → Nat → Int} (h2 : 2 ≤ lo) (h : run lo hi f m pc L st (n, s) = some (r, (n', t))) : ∀ a, ¬ (lo ≤ a ∧ a < hi) → t a = s a := by
  intro a ha
  have h1 := run_reg h2 f m pc L st n s r n' t h s (fun _ _ => rfl)
  rw [h] at h1
  have h3 : t = ovr lo hi t s := by
    have := Option.some.inj h1
    exact congrArg (fun q => q.2.2) this
  rw [h3]
  exact ovr_out ha
theorem refs_ovr {lo hi : Nat} {t s : Nat → Nat → Int} (ht : refs t) (hs : refs s) : refs (ovr lo hi t s) := by
  intro a k v hv
  unfold ovr
  by_cases hc : lo ≤ a ∧ a < hi
  · rw [if_pos hc]; exact ht a k v hv
  · rw [if_neg hc]; exact hs a k v hv
theorem both_law {cm rm n : Nat} {L1 L2 : List Vl} {s : Nat → Nat → Int} (h : G 2 120 cm 0 L1 [] (n, s) (fun r s1 => G 120 140 rm 0 L2 [] (n, s) (Post n r s1))) :
    G 0 140 cm 0 L1 [] (n, s) (fun r s1 => G 0 140 rm 0 L2 [] s1 (fun r' s2 => r' = r ∧ (∃ v, r = [v]) ∧ REL s2.2 s2.2 ∧ s2.1 = n)) := by
  obtain ⟨f, r, s1, h1, f2, r', t1, h2, v, hr, hr', hrel, hn1, hn2⟩ := h
  obtain ⟨n1, s1⟩ := s1
  obtain ⟨n2, t1⟩ := t1
  dsimp only at hn1 hn2 hrel
  subst hn1; subst hn2
  have ho := run_out (by decide) h1
  have h3 := run_reg (by decide) f2 rm 0 L2 [] _ s r' _ t1 h2 s1 (fun a ha => ho a (by omega))
  refine ⟨f, r, _, run_lift (by decide) (by decide) _ _ _ _ _ _ _ h1, f2, r', _, run_lift (by decide) (by decide) _ _ _ _ _ _ _ h3, by rw [hr', hr], ⟨v, hr⟩, ?_, rfl⟩
  exact REL_loc hrel (fun a ha => ovr_out (by omega)) (fun a ha => ovr_in (by omega)) (refs_ovr hrel.2.1 hrel.1) (refs_ovr hrel.2.1 hrel.1)
/-- a refused call -/
theorem rel_refuse {s t : Nat → Nat → Int} (h : REL s t) (k : Nat) (hk : k < 7) : REL (upS s 119 k (wr (s 119 k + 1))) (upS (upS t 120 10 0) 129 k (wr (t 129 k + 1))) := by
  refine ⟨refs_up h.1 rfl, refs_up (refs_up h.2.1 rfl) rfl, relN_fr h.n ?_ ?_ ?_ ?_ ?_ ?_, relI_fr h.i ?_ ?_ ?_ ?_ ?_ ?_, relH_fr h.h ?_ ?_ ?_ ?_ ?_, relL_fr h.l ?_ ?_ ?_ ?_, relR_fr h.r ?_ ?_ ?_ ?_, ?_⟩
  all_goals first | rfl | (intro a h1 h2; funext z; unfold upS; (repeat rw [if_neg (by omega)]); done) | skip
  intro j hj
  have he := h.f
  by_cases hjk : j = k
  · subst hjk
    simp [upS, he j hj]
  · simp [upS, hjk, he j hj]
end
section
/-! THE CALLS, ONE BY ONE: the class's and the reference's, begun over cells that have to do with each other. -/
theorem post_ref {n : Nat} {s t : Nat → Nat → Int} {v : Vl} (h : REL s t) (k : Nat) (hk : k < 7) : Post n [v] (n, upS s 119 k (wr (s 119 k + 1))) [v] (n, upS (upS t 120 10 0) 129 k (wr (t 129 k + 1))) := ⟨v, rfl, rfl, rel_refuse h k hk, rfl, rfl⟩
theorem sb_X6_feed_0 (n : Nat) (s : Nat → Nat → Int) (Q : List Vl → Sto → Prop) (a0 : Int) (hR : refs s)
    (h : (0 ≤ a0 → (a0 ≤ 255 → (s 115 1 < 96 → (0 ≤ s 115 1 ∧ s 115 1 < 96) ∧ (Q [(1, wr ((s 115 1) + 1))] (n, upS (upS s 116 ((s 115 1).toNat) a0) 115 1 (wr ((s 115 1) + 1))))) ∧ (96 ≤ s 115 1 → Q [(1, (-6))] (n, upS s 119 6 (wr ((s 119 6) + 1))))) ∧ (255 < a0 → Q [(1, (-6))] (n, upS s 119 6 (wr ((s 119 6) + 1))))) ∧ (a0 < 0 → Q [(1, (-4))] (n, upS s 119 4 (wr ((s 119 4) + 1))))) :
    G 2 120 81 0 [(3, 2), (1, a0), (0, 0)] [] (n, s) Q := by
  refine G_go rfl rfl ?_
  refine G_go rfl rfl ?_
  refine G_go rfl rfl ?_
  refine G_call rfl rfl ?_
  refine G_go rfl rfl ?_
  refine G_go rfl rfl ?_
  refine G_ge rfl rfl (fun c1 => ?_) (fun c1 => ?_)
  · have h := h.1 c1
    refine G_go rfl rfl ?_
    refine G_go rfl rfl ?_
    refine G_le rfl rfl (fun c2 => ?_) (fun c2 => ?_)
    · have h := h.1 c2
      refine G_go rfl rfl ?_
      refine G_ret rfl rfl ?_
      refine G_go rfl rfl ?_
      refine G_go rfl rfl ?_
      refine G_brF rfl rfl rfl ?_
      refine G_go rfl rfl ?_
      refine G_rf rfl rfl (by decide) (hR 2 5 115 rfl) ?_
      refine G_call rfl rfl ?_
      refine G_go rfl rfl ?_
      refine G_rd rfl rfl (by decide) ?_
      refine G_go rfl rfl ?_
      refine G_rf rfl rfl (by decide) (hR 115 0 116 rfl) ?_
      refine G_go rfl rfl ?_
      refine G_lt rfl rfl (fun c3 => ?_) (fun c3 => ?_)
      · have h := h.1 c3
        refine G_go rfl rfl ?_
        refine G_ret rfl rfl ?_
        refine G_brT rfl rfl rfl ?_
        refine G_go rfl rfl ?_
        refine G_brT rfl rfl rfl ?_
        refine G_go rfl rfl ?_
        refine G_rf rfl rfl (by decide) (hR 2 5 115 rfl) ?_
        refine G_go rfl rfl ?_
        refine G_call rfl rfl ?_
        refine G_go rfl rfl ?_
        refine G_call rfl rfl ?_
        refine G_go rfl rfl ?_
        refine G_rd rfl rfl (by decide) ?_
        refine G_go rfl rfl ?_
        refine G_rf rfl rfl (by decide) (hR 115 0 116 rfl) ?_
        refine G_go rfl rfl ?_
        refine G_lt rfl rfl (fun _ => ?_) (fun hc => absurd (show 96 ≤ s 115 1 from hc) (by omega))
        refine G_go rfl rfl ?_
        refine G_ret rfl rfl ?_
        refine G_brF rfl rfl rfl ?_
        refine G_go rfl rfl ?_
        refine G_rf rfl rfl (by decide) (hR 115 0 116 rfl) ?_
        refine G_go rfl rfl ?_
        refine G_rd rfl rfl (by decide) ?_
        refine G_go rfl rfl ?_
        obtain ⟨g4, h⟩ := h
        refine G_iw (n := 96) rfl rfl (by decide) (by decide) g4 ?_
        have hR := refs_up (a := 116) (k := (s 115 1).toNat) (x := a0) hR rfl
        refine G_go rfl rfl ?_
        refine G_go rfl rfl ?_
        refine G_rd rfl rfl (by decide) ?_
        refine G_go rfl rfl ?_
        refine G_go rfl rfl ?_
        refine G_wr rfl rfl (by decide) ?_
        have hR := refs_up (a := 115) (k := 1) (x := wr ((s 115 1) + 1)) hR rfl
        refine G_go rfl rfl ?_
        refine G_rdv (v := wr ((s 115 1) + 1)) rfl rfl (by decide) (by simp [upS]) ?_
        refine G_ret rfl rfl ?_
        exact G_ret rfl rfl h
      · have h := h.2 c3
        refine G_go rfl rfl ?_
        refine G_go rfl rfl ?_
        refine G_ret rfl rfl ?_
        refine G_brF rfl rfl rfl ?_
        refine G_go rfl rfl ?_
        refine G_go rfl rfl ?_
        refine G_go rfl rfl ?_
        refine G_brF rfl rfl rfl ?_
        refine G_go rfl rfl ?_
        refine G_go rfl rfl ?_
        refine G_call rfl rfl ?_
        refine G_go rfl rfl ?_
        refine G_go rfl rfl ?_
        refine G_go rfl rfl ?_
        refine G_go rfl rfl ?_
        refine G_brF rfl rfl rfl ?_
        refine G_go rfl rfl ?_
        refine G_go rfl rfl ?_
        refine G_rf rfl rfl (by decide) (hR 2 7 119 rfl) ?_
        refine G_go rfl rfl ?_
        refine G_brF rfl rfl rfl ?_
        refine G_go rfl rfl ?_
        refine G_rf rfl rfl (by decide) (hR 2 7 119 rfl) ?_
        refine G_go rfl rfl ?_
        refine G_go rfl rfl ?_
        refine G_ir (n := 7) rfl rfl (by decide) (by decide) (by decide) ?_
        refine G_go rfl rfl ?_
        refine G_go rfl rfl ?_
        refine G_iw (n := 7) rfl rfl (by decide) (by decide) (by decide) ?_
        have hR := refs_up (a := 119) (k := 6) (x := wr ((s 119 6) + 1)) hR rfl
        refine G_go rfl rfl ?_
        refine G_ret rfl rfl ?_
        refine G_go rfl rfl ?_
        exact G_ret rfl rfl h
    · have h := h.2 c2
      refine G_go rfl rfl ?_
      refine G_go rfl rfl ?_
      refine G_ret rfl rfl ?_
      refine G_go rfl rfl ?_
      refine G_go rfl rfl ?_
      refine G_brT rfl rfl rfl ?_
      refine G_go rfl rfl ?_
      refine G_brF rfl rfl rfl ?_
      refine G_go rfl rfl ?_
      refine G_go rfl rfl ?_
      refine G_call rfl rfl ?_
      refine G_go rfl rfl ?_
      refine G_go rfl rfl ?_
      refine G_go rfl rfl ?_
      refine G_go rfl rfl ?_
      refine G_brF rfl rfl rfl ?_
      refine G_go rfl rfl ?_
      refine G_go rfl rfl ?_
      refine G_rf rfl rfl (by decide) (hR 2 7 119 rfl) ?_
      refine G_go rfl rfl ?_
      refine G_brF rfl rfl rfl ?_
      refine G_go rfl rfl ?_
      refine G_rf rfl rfl (by decide) (hR 2 7 119 rfl) ?_
      refine G_go rfl rfl ?_
      refine G_go rfl rfl ?_
      refine G_ir (n := 7) rfl rfl (by decide) (by decide) (by decide) ?_
      refine G_go rfl rfl ?_
      refine G_go rfl rfl ?_
      refine G_iw (n := 7) rfl rfl (by decide) (by decide) (by decide) ?_
      have hR := refs_up (a := 119) (k := 6) (x := wr ((s 119 6) + 1)) hR rfl
      refine G_go rfl rfl ?_
      refine G_ret rfl rfl ?_
      refine G_go rfl rfl ?_
      exact G_ret rfl rfl h
  · have h := h.2 c1
    refine G_go rfl rfl ?_
    refine G_ret rfl rfl ?_
    refine G_go rfl rfl ?_
    refine G_go rfl rfl ?_
    refine G_brT rfl rfl rfl ?_
    refine G_go rfl rfl ?_
    refine G_brF rfl rfl rfl ?_
    refine G_go rfl rfl ?_
    refine G_go rfl rfl ?_
    refine G_call rfl rfl ?_
    refine G_go rfl rfl ?_
    refine G_go rfl rfl ?_
    refine G_go rfl rfl ?_
    refine G_go rfl rfl ?_
    refine G_brF rfl rfl rfl ?_
    refine G_go rfl rfl ?_
    refine G_go rfl rfl ?_
    refine G_rf rfl rfl (by decide) (hR 2 7 119 rfl) ?_
    refine G_go rfl rfl ?_
    refine G_brF rfl rfl rfl ?_
    refine G_go rfl rfl ?_
    refine G_rf rfl rfl (by decide) (hR 2 7 119 rfl) ?_
    refine G_go rfl rfl ?_
    refine G_go rfl rfl ?_
    refine G_ir (n := 7) rfl rfl (by decide) (by decide) (by decide) ?_
    refine G_go rfl rfl ?_
    refine G_go rfl rfl ?_
    refine G_iw (n := 7) rfl rfl (by decide) (by decide) (by decide) ?_
    have hR := refs_up (a := 119) (k := 4) (x := wr ((s 119 4) + 1)) hR rfl
    refine G_go rfl rfl ?_
    refine G_ret rfl rfl ?_
    refine G_go rfl rfl ?_
    exact G_ret rfl rfl h
theorem sb_X7_feed_0 (n : Nat) (s : Nat → Nat → Int) (Q : List Vl → Sto → Prop) (a0 : Int) (hR : refs s)
    (h : (0 ≤ a0 → (255 < a0 → Q [(1, (-6))] (n, upS (upS s 120 10 0) 129 6 (wr ((s 129 6) + 1)))) ∧ (a0 ≤ 255 → (s 120 14 ≠ 96 → (0 ≤ s 120 14 ∧ s 120 14 < 96) ∧ (Q [(1, wr ((s 120 14) + 1))] (n, upS (upS (upS s 120 10 0) 131 ((s 120 14).toNat) a0) 120 14 (wr ((s 120 14) + 1))))) ∧ (s 120 14 = 96 → Q [(1, (-6))] (n, upS (upS s 120 10 0) 129 6 (wr ((s 129 6) + 1)))))) ∧ (a0 < 0 → Q [(1, (-4))] (n, upS (upS s 120 10 0) 129 4 (wr ((s 129 4) + 1))))) :
    G 120 140 178 0 [(3, 120), (1, a0)] [] (n, s) Q := by
  refine G_go rfl rfl ?_
  refine G_go rfl rfl ?_
  refine G_wr rfl rfl (by decide) ?_
  have hR := refs_up (a := 120) (k := 10) (x := 0) hR rfl
  refine G_go rfl rfl ?_
  refine G_ge rfl rfl (fun c1 => ?_) (fun c1 => ?_)
  · have h := h.1 c1
    refine G_go rfl rfl ?_
    refine G_go rfl rfl ?_
    refine G_gt rfl rfl (fun c2 => ?_) (fun c2 => ?_)
    · have h := h.1 c2
      refine G_go rfl rfl ?_
      refine G_go rfl rfl ?_
      refine G_call rfl rfl ?_
      refine G_go rfl rfl ?_
      refine G_rf rfl rfl (by decide) (hR 120 11 129 rfl) ?_
      refine G_go rfl rfl ?_
      refine G_go rfl rfl ?_
      refine G_go rfl rfl ?_
      refine G_ir (n := 7) rfl rfl (by decide) (by decide) (by decide) ?_
      refine G_go rfl rfl ?_
      refine G_go rfl rfl ?_
      refine G_iw (n := 7) rfl rfl (by decide) (by decide) (by decide) ?_
      have hR := refs_up (a := 129) (k := 6) (x := wr ((s 129 6) + 1)) hR rfl
      refine G_go rfl rfl ?_
      refine G_ret rfl rfl ?_
      exact G_ret rfl rfl h
    · have h := h.2 c2
      refine G_go rfl rfl ?_
      refine G_rd rfl rfl (by decide) ?_
      refine G_go rfl rfl ?_
      refine G_ne rfl rfl (fun c3 => ?_) (fun c3 => ?_)
      · have h := h.1 c3
        refine G_go rfl rfl ?_
        refine G_rf rfl rfl (by decide) (hR 120 13 131 rfl) ?_
        refine G_go rfl rfl ?_
        refine G_rd rfl rfl (by decide) ?_
        refine G_go rfl rfl ?_
        obtain ⟨g4, h⟩ := h
        refine G_iw (n := 96) rfl rfl (by decide) (by decide) g4 ?_
        have hR := refs_up (a := 131) (k := (s 120 14).toNat) (x := a0) hR rfl
        refine G_go rfl rfl ?_
        refine G_go rfl rfl ?_
        refine G_rd rfl rfl (by decide) ?_
        refine G_go rfl rfl ?_
        refine G_go rfl rfl ?_
        refine G_wr rfl rfl (by decide) ?_
        have hR := refs_up (a := 120) (k := 14) (x := wr ((s 120 14) + 1)) hR rfl
        refine G_go rfl rfl ?_
        refine G_rdv (v := wr ((s 120 14) + 1)) rfl rfl (by decide) (by simp [upS]) ?_
        exact G_ret rfl rfl h
      · have h := h.2 c3
        refine G_go rfl rfl ?_
        refine G_go rfl rfl ?_
        refine G_call rfl rfl ?_
        refine G_go rfl rfl ?_
        refine G_rf rfl rfl (by decide) (hR 120 11 129 rfl) ?_
        refine G_go rfl rfl ?_
        refine G_go rfl rfl ?_
        refine G_go rfl rfl ?_
        refine G_ir (n := 7) rfl rfl (by decide) (by decide) (by decide) ?_
        refine G_go rfl rfl ?_
        refine G_go rfl rfl ?_
        refine G_iw (n := 7) rfl rfl (by decide) (by decide) (by decide) ?_
        have hR := refs_up (a := 129) (k := 6) (x := wr ((s 129 6) + 1)) hR rfl
        refine G_go rfl rfl ?_
        refine G_ret rfl rfl ?_
        exact G_ret rfl rfl h
  · have h := h.2 c1
    refine G_go rfl rfl ?_
    refine G_go rfl rfl ?_
    refine G_call rfl rfl ?_
    refine G_go rfl rfl ?_
    refine G_rf rfl rfl (by decide) (hR 120 11 129 rfl) ?_
    refine G_go rfl rfl ?_
    refine G_go rfl rfl ?_
    refine G_go rfl rfl ?_
    refine G_ir (n := 7) rfl rfl (by decide) (by decide) (by decide) ?_
    refine G_go rfl rfl ?_
    refine G_go rfl rfl ?_
    refine G_iw (n := 7) rfl rfl (by decide) (by decide) (by decide) ?_
    have hR := refs_up (a := 129) (k := 4) (x := wr ((s 129 4) + 1)) hR rfl
    refine G_go rfl rfl ?_
    refine G_ret rfl rfl ?_
    exact G_ret rfl rfl h
theorem sb_X6_row_0 (n : Nat) (s : Nat → Nat → Int) (Q : List Vl → Sto → Prop) (a0 : Int) (hR : refs s)
    (h : (0 ≤ a0 → (a0 ≤ 99 → (s 117 1 < 12 → (0 ≤ s 117 1 ∧ s 117 1 < 12) ∧ (Q [(1, wr ((s 117 1) + 1))] (n, upS (upS s 118 ((s 117 1).toNat) a0) 117 1 (wr ((s 117 1) + 1))))) ∧ (12 ≤ s 117 1 → Q [(1, (-6))] (n, upS s 119 6 (wr ((s 119 6) + 1))))) ∧ (99 < a0 → Q [(1, (-6))] (n, upS s 119 6 (wr ((s 119 6) + 1))))) ∧ (a0 < 0 → Q [(1, (-4))] (n, upS s 119 4 (wr ((s 119 4) + 1))))) :
    G 2 120 121 0 [(3, 2), (1, a0), (0, 0)] [] (n, s) Q := by
  refine G_go rfl rfl ?_
  refine G_go rfl rfl ?_
  refine G_go rfl rfl ?_
  refine G_call rfl rfl ?_
  refine G_go rfl rfl ?_
  refine G_go rfl rfl ?_
  refine G_ge rfl rfl (fun c1 => ?_) (fun c1 => ?_)
  · have h := h.1 c1
    refine G_go rfl rfl ?_
    refine G_go rfl rfl ?_
    refine G_le rfl rfl (fun c2 => ?_) (fun c2 => ?_)
    · have h := h.1 c2
      refine G_go rfl rfl ?_
      refine G_ret rfl rfl ?_
      refine G_go rfl rfl ?_
      refine G_go rfl rfl ?_
      refine G_brF rfl rfl rfl ?_
      refine G_go rfl rfl ?_
      refine G_rf rfl rfl (by decide) (hR 2 6 117 rfl) ?_
      refine G_call rfl rfl ?_
      refine G_go rfl rfl ?_
      refine G_rd rfl rfl (by decide) ?_
      refine G_go rfl rfl ?_
      refine G_rf rfl rfl (by decide) (hR 117 0 118 rfl) ?_
      refine G_go rfl rfl ?_
      refine G_lt rfl rfl (fun c3 => ?_) (fun c3 => ?_)
      · have h := h.1 c3
        refine G_go rfl rfl ?_
        refine G_ret rfl rfl ?_
        refine G_brT rfl rfl rfl ?_
        refine G_go rfl rfl ?_
        refine G_brT rfl rfl rfl ?_
        refine G_go rfl rfl ?_
        refine G_rf rfl rfl (by decide) (hR 2 6 117 rfl) ?_
        refine G_go rfl rfl ?_
        refine G_call rfl rfl ?_
        refine G_go rfl rfl ?_
        refine G_call rfl rfl ?_
        refine G_go rfl rfl ?_
        refine G_rd rfl rfl (by decide) ?_
        refine G_go rfl rfl ?_
        refine G_rf rfl rfl (by decide) (hR 117 0 118 rfl) ?_
        refine G_go rfl rfl ?_
        refine G_lt rfl rfl (fun _ => ?_) (fun hc => absurd (show 12 ≤ s 117 1 from hc) (by omega))
        refine G_go rfl rfl ?_
        refine G_ret rfl rfl ?_
        refine G_brF rfl rfl rfl ?_
        refine G_go rfl rfl ?_
        refine G_rf rfl rfl (by decide) (hR 117 0 118 rfl) ?_
        refine G_go rfl rfl ?_
        refine G_rd rfl rfl (by decide) ?_
        refine G_go rfl rfl ?_
        obtain ⟨g4, h⟩ := h
        refine G_iw (n := 12) rfl rfl (by decide) (by decide) g4 ?_
        have hR := refs_up (a := 118) (k := (s 117 1).toNat) (x := a0) hR rfl
        refine G_go rfl rfl ?_
        refine G_go rfl rfl ?_
        refine G_rd rfl rfl (by decide) ?_
        refine G_go rfl rfl ?_
        refine G_go rfl rfl ?_
        refine G_wr rfl rfl (by decide) ?_
        have hR := refs_up (a := 117) (k := 1) (x := wr ((s 117 1) + 1)) hR rfl
        refine G_go rfl rfl ?_
        refine G_rdv (v := wr ((s 117 1) + 1)) rfl rfl (by decide) (by simp [upS]) ?_
        refine G_ret rfl rfl ?_
        exact G_ret rfl rfl h
      · have h := h.2 c3
        refine G_go rfl rfl ?_
        refine G_go rfl rfl ?_
        refine G_ret rfl rfl ?_
        refine G_brF rfl rfl rfl ?_
        refine G_go rfl rfl ?_
        refine G_go rfl rfl ?_
        refine G_go rfl rfl ?_
        refine G_brF rfl rfl rfl ?_
        refine G_go rfl rfl ?_
        refine G_go rfl rfl ?_
        refine G_call rfl rfl ?_
        refine G_go rfl rfl ?_
        refine G_go rfl rfl ?_
        refine G_go rfl rfl ?_
        refine G_go rfl rfl ?_
        refine G_brF rfl rfl rfl ?_
        refine G_go rfl rfl ?_
        refine G_go rfl rfl ?_
        refine G_rf rfl rfl (by decide) (hR 2 7 119 rfl) ?_
        refine G_go rfl rfl ?_
        refine G_brF rfl rfl rfl ?_
        refine G_go rfl rfl ?_
        refine G_rf rfl rfl (by decide) (hR 2 7 119 rfl) ?_
        refine G_go rfl rfl ?_
        refine G_go rfl rfl ?_
        refine G_ir (n := 7) rfl rfl (by decide) (by decide) (by decide) ?_
        refine G_go rfl rfl ?_
        refine G_go rfl rfl ?_
        refine G_iw (n := 7) rfl rfl (by decide) (by decide) (by decide) ?_
        have hR := refs_up (a := 119) (k := 6) (x := wr ((s 119 6) + 1)) hR rfl
        refine G_go rfl rfl ?_
        refine G_ret rfl rfl ?_
        refine G_go rfl rfl ?_
        exact G_ret rfl rfl h
    · have h := h.2 c2
      refine G_go rfl rfl ?_
      refine G_go rfl rfl ?_
      refine G_ret rfl rfl ?_
      refine G_go rfl rfl ?_
      refine G_go rfl rfl ?_
      refine G_brT rfl rfl rfl ?_
      refine G_go rfl rfl ?_
      refine G_brF rfl rfl rfl ?_
      refine G_go rfl rfl ?_
      refine G_go rfl rfl ?_
      refine G_call rfl rfl ?_
      refine G_go rfl rfl ?_
      refine G_go rfl rfl ?_
      refine G_go rfl rfl ?_
      refine G_go rfl rfl ?_
      refine G_brF rfl rfl rfl ?_
      refine G_go rfl rfl ?_
      refine G_go rfl rfl ?_
      refine G_rf rfl rfl (by decide) (hR 2 7 119 rfl) ?_
      refine G_go rfl rfl ?_
      refine G_brF rfl rfl rfl ?_
      refine G_go rfl rfl ?_
      refine G_rf rfl rfl (by decide) (hR 2 7 119 rfl) ?_
      refine G_go rfl rfl ?_
      refine G_go rfl rfl ?_
      refine G_ir (n := 7) rfl rfl (by decide) (by decide) (by decide) ?_
      refine G_go rfl rfl ?_
      refine G_go rfl rfl ?_
      refine G_iw (n := 7) rfl rfl (by decide) (by decide) (by decide) ?_
      have hR := refs_up (a := 119) (k := 6) (x := wr ((s 119 6) + 1)) hR rfl
      refine G_go rfl rfl ?_
      refine G_ret rfl rfl ?_
      refine G_go rfl rfl ?_
      exact G_ret rfl rfl h
  · have h := h.2 c1
    refine G_go rfl rfl ?_
    refine G_ret rfl rfl ?_
    refine G_go rfl rfl ?_
    refine G_go rfl rfl ?_
    refine G_brT rfl rfl rfl ?_
    refine G_go rfl rfl ?_
    refine G_brF rfl rfl rfl ?_
    refine G_go rfl rfl ?_
    refine G_go rfl rfl ?_
    refine G_call rfl rfl ?_
    refine G_go rfl rfl ?_
    refine G_go rfl rfl ?_
    refine G_go rfl rfl ?_
    refine G_go rfl rfl ?_
    refine G_brF rfl rfl rfl ?_
    refine G_go rfl rfl ?_
    refine G_go rfl rfl ?_
    refine G_rf rfl rfl (by decide) (hR 2 7 119 rfl) ?_
    refine G_go rfl rfl ?_
    refine G_brF rfl rfl rfl ?_
    refine G_go rfl rfl ?_
    refine G_rf rfl rfl (by decide) (hR 2 7 119 rfl) ?_
    refine G_go rfl rfl ?_
    refine G_go rfl rfl ?_
    refine G_ir (n := 7) rfl rfl (by decide) (by decide) (by decide) ?_
    refine G_go rfl rfl ?_
    refine G_go rfl rfl ?_
    refine G_iw (n := 7) rfl rfl (by decide) (by decide) (by decide) ?_
    have hR := refs_up (a := 119) (k := 4) (x := wr ((s 119 4) + 1)) hR rfl
    refine G_go rfl rfl ?_
    refine G_ret rfl rfl ?_
    refine G_go rfl rfl ?_
    exact G_ret rfl rfl h
theorem sb_X7_row_0 (n : Nat) (s : Nat → Nat → Int) (Q : List Vl → Sto → Prop) (a0 : Int) (hR : refs s)
    (h : (0 ≤ a0 → (99 < a0 → Q [(1, (-6))] (n, upS (upS s 120 10 0) 129 6 (wr ((s 129 6) + 1)))) ∧ (a0 ≤ 99 → (s 120 31 ≠ 12 → (0 ≤ s 120 31 ∧ s 120 31 < 12) ∧ (Q [(1, wr ((s 120 31) + 1))] (n, upS (upS (upS s 120 10 0) 139 ((s 120 31).toNat) a0) 120 31 (wr ((s 120 31) + 1))))) ∧ (s 120 31 = 12 → Q [(1, (-6))] (n, upS (upS s 120 10 0) 129 6 (wr ((s 129 6) + 1)))))) ∧ (a0 < 0 → Q [(1, (-4))] (n, upS (upS s 120 10 0) 129 4 (wr ((s 129 4) + 1))))) :
    G 120 140 212 0 [(3, 120), (1, a0)] [] (n, s) Q := by
  refine G_go rfl rfl ?_
  refine G_go rfl rfl ?_
  refine G_wr rfl rfl (by decide) ?_
  have hR := refs_up (a := 120) (k := 10) (x := 0) hR rfl
  refine G_go rfl rfl ?_
  refine G_ge rfl rfl (fun c1 => ?_) (fun c1 => ?_)
  · have h := h.1 c1
    refine G_go rfl rfl ?_
    refine G_go rfl rfl ?_
    refine G_gt rfl rfl (fun c2 => ?_) (fun c2 => ?_)
    · have h := h.1 c2
      refine G_go rfl rfl ?_
      refine G_go rfl rfl ?_
      refine G_call rfl rfl ?_
      refine G_go rfl rfl ?_
      refine G_rf rfl rfl (by decide) (hR 120 11 129 rfl) ?_
      refine G_go rfl rfl ?_
      refine G_go rfl rfl ?_
      refine G_go rfl rfl ?_
      refine G_ir (n := 7) rfl rfl (by decide) (by decide) (by decide) ?_
      refine G_go rfl rfl ?_
      refine G_go rfl rfl ?_
      refine G_iw (n := 7) rfl rfl (by decide) (by decide) (by decide) ?_
      have hR := refs_up (a := 129) (k := 6) (x := wr ((s 129 6) + 1)) hR rfl
      refine G_go rfl rfl ?_
      refine G_ret rfl rfl ?_
      exact G_ret rfl rfl h
    · have h := h.2 c2
      refine G_go rfl rfl ?_
      refine G_rd rfl rfl (by decide) ?_
      refine G_go rfl rfl ?_
      refine G_ne rfl rfl (fun c3 => ?_) (fun c3 => ?_)
      · have h := h.1 c3
        refine G_go rfl rfl ?_
        refine G_rf rfl rfl (by decide) (hR 120 30 139 rfl) ?_
        refine G_go rfl rfl ?_
        refine G_rd rfl rfl (by decide) ?_
        refine G_go rfl rfl ?_
        obtain ⟨g4, h⟩ := h
        refine G_iw (n := 12) rfl rfl (by decide) (by decide) g4 ?_
        have hR := refs_up (a := 139) (k := (s 120 31).toNat) (x := a0) hR rfl
        refine G_go rfl rfl ?_
        refine G_go rfl rfl ?_
        refine G_rd rfl rfl (by decide) ?_
        refine G_go rfl rfl ?_
        refine G_go rfl rfl ?_
        refine G_wr rfl rfl (by decide) ?_
        have hR := refs_up (a := 120) (k := 31) (x := wr ((s 120 31) + 1)) hR rfl
        refine G_go rfl rfl ?_
        refine G_rdv (v := wr ((s 120 31) + 1)) rfl rfl (by decide) (by simp [upS]) ?_
        exact G_ret rfl rfl h
      · have h := h.2 c3
        refine G_go rfl rfl ?_
        refine G_go rfl rfl ?_
        refine G_call rfl rfl ?_
        refine G_go rfl rfl ?_
        refine G_rf rfl rfl (by decide) (hR 120 11 129 rfl) ?_
        refine G_go rfl rfl ?_
        refine G_go rfl rfl ?_
        refine G_go rfl rfl ?_
        refine G_ir (n := 7) rfl rfl (by decide) (by decide) (by decide) ?_
        refine G_go rfl rfl ?_
        refine G_go rfl rfl ?_
        refine G_iw (n := 7) rfl rfl (by decide) (by decide) (by decide) ?_
        have hR := refs_up (a := 129) (k := 6) (x := wr ((s 129 6) + 1)) hR rfl
        refine G_go rfl rfl ?_
        refine G_ret rfl rfl ?_
        exact G_ret rfl rfl h
  · have h := h.2 c1
    refine G_go rfl rfl ?_
    refine G_go rfl rfl ?_
    refine G_call rfl rfl ?_
    refine G_go rfl rfl ?_
    refine G_rf rfl rfl (by decide) (hR 120 11 129 rfl) ?_
    refine G_go rfl rfl ?_
    refine G_go rfl rfl ?_
    refine G_go rfl rfl ?_
    refine G_ir (n := 7) rfl rfl (by decide) (by decide) (by decide) ?_
    refine G_go rfl rfl ?_
    refine G_go rfl rfl ?_
    refine G_iw (n := 7) rfl rfl (by decide) (by decide) (by decide) ?_
    have hR := refs_up (a := 129) (k := 4) (x := wr ((s 129 4) + 1)) hR rfl
    refine G_go rfl rfl ?_
    refine G_ret rfl rfl ?_
    exact G_ret rfl rfl h
theorem sb_X6_clear_0 (n : Nat) (s : Nat → Nat → Int) (Q : List Vl → Sto → Prop) (hR : refs s)
    (h : Q [(1, s 117 1)] (n, upS s 117 1 0)) :
    G 2 120 75 0 [(3, 2), (0, 0)] [] (n, s) Q := by
  refine G_go rfl rfl ?_
  refine G_rf rfl rfl (by decide) (hR 2 6 117 rfl) ?_
  refine G_call rfl rfl ?_
  refine G_go rfl rfl ?_
  refine G_rd rfl rfl (by decide) ?_
  refine G_ret rfl rfl ?_
  refine G_go rfl rfl ?_
  refine G_go rfl rfl ?_
  refine G_rf rfl rfl (by decide) (hR 2 6 117 rfl) ?_
  refine G_call rfl rfl ?_
  refine G_go rfl rfl ?_
  refine G_go rfl rfl ?_
  refine G_wr rfl rfl (by decide) ?_
  have hR := refs_up (a := 117) (k := 1) (x := 0) hR rfl
  refine G_ret rfl rfl ?_
  refine G_go rfl rfl ?_
  exact G_ret rfl rfl h
theorem sb_X7_clear_0 (n : Nat) (s : Nat → Nat → Int) (Q : List Vl → Sto → Prop) (hR : refs s)
    (h : Q [(1, s 120 31)] (n, upS (upS s 120 10 0) 120 31 0)) :
    G 120 140 164 0 [(3, 120), (0, 0)] [] (n, s) Q := by
  refine G_go rfl rfl ?_
  refine G_go rfl rfl ?_
  refine G_wr rfl rfl (by decide) ?_
  have hR := refs_up (a := 120) (k := 10) (x := 0) hR rfl
  refine G_go rfl rfl ?_
  refine G_rd rfl rfl (by decide) ?_
  refine G_go rfl rfl ?_
  refine G_go rfl rfl ?_
  refine G_go rfl rfl ?_
  refine G_wr rfl rfl (by decide) ?_
  have hR := refs_up (a := 120) (k := 31) (x := 0) hR rfl
  refine G_go rfl rfl ?_
  exact G_ret rfl rfl h
theorem sb_X6_person_0 (n : Nat) (s : Nat → Nat → Int) (Q : List Vl → Sto → Prop) (a0 : Int) (a1 : Int) (a2 : Int) (hR : refs s)
    (h : (a0 < 0 → Q [(1, (-2))] (n, upS s 119 2 (wr ((s 119 2) + 1)))) ∧ (0 ≤ a0 → (a0 ≤ 5 → (a1 < 0 → Q [(1, (-4))] (n, upS s 119 4 (wr ((s 119 4) + 1)))) ∧ (0 ≤ a1 → (0 ≤ a2 → (9 < a1 → Q [(1, (-6))] (n, upS s 119 6 (wr ((s 119 6) + 1)))) ∧ (a1 ≤ 9 → (99 < a2 → Q [(1, (-6))] (n, upS s 119 6 (wr ((s 119 6) + 1)))) ∧ (a2 ≤ 99 → (s 3 9 < 6 → (0 ≤ s 3 9 ∧ s 3 9 < 6) ∧ (Q [(1, wr ((wr ((s 3 9) + 1)) - 1))] (n, upS (upS (upS (upS (upS (upS (upS (upS (upS (upS s 33 2 0) 4 ((s 3 9).toNat) a0) 5 ((s 3 9).toNat) a1) 6 ((s 3 9).toNat) a2) 7 ((s 3 9).toNat) 0) 8 ((s 3 9).toNat) 50) 9 ((s 3 9).toNat) 0) 10 ((s 3 9).toNat) 0) 11 ((s 3 9).toNat) (-1)) 3 9 (wr ((s 3 9) + 1))))) ∧ (6 ≤ s 3 9 → Q [(1, (-6))] (n, upS s 119 6 (wr ((s 119 6) + 1))))))) ∧ (a2 < 0 → Q [(1, (-4))] (n, upS s 119 4 (wr ((s 119 4) + 1)))))) ∧ (5 < a0 → Q [(1, (-2))] (n, upS s 119 2 (wr ((s 119 2) + 1)))))) :
    G 2 120 115 0 [(3, 2), (1, a0), (1, a1), (1, a2), (0, 0)] [] (n, s) Q := by
  refine G_go rfl rfl ?_
  refine G_go rfl rfl ?_
  refine G_call rfl rfl ?_
  refine G_go rfl rfl ?_
  refine G_lt rfl rfl (fun c1 => ?_) (fun c1 => ?_)
  · have h := h.1 c1
    refine G_go rfl rfl ?_
    refine G_go rfl rfl ?_
    refine G_ret rfl rfl ?_
    refine G_go rfl rfl ?_
    refine G_go rfl rfl ?_
    refine G_brT rfl rfl rfl ?_
    refine G_go rfl rfl ?_
    refine G_brT rfl rfl rfl ?_
    refine G_go rfl rfl ?_
    refine G_brF rfl rfl rfl ?_
    refine G_go rfl rfl ?_
    refine G_go rfl rfl ?_
    refine G_call rfl rfl ?_
    refine G_go rfl rfl ?_
    refine G_go rfl rfl ?_
    refine G_go rfl rfl ?_
    refine G_go rfl rfl ?_
    refine G_brF rfl rfl rfl ?_
    refine G_go rfl rfl ?_
    refine G_go rfl rfl ?_
    refine G_rf rfl rfl (by decide) (hR 2 7 119 rfl) ?_
    refine G_go rfl rfl ?_
    refine G_brF rfl rfl rfl ?_
    refine G_go rfl rfl ?_
    refine G_rf rfl rfl (by decide) (hR 2 7 119 rfl) ?_
    refine G_go rfl rfl ?_
    refine G_go rfl rfl ?_
    refine G_ir (n := 7) rfl rfl (by decide) (by decide) (by decide) ?_
    refine G_go rfl rfl ?_
    refine G_go rfl rfl ?_
    refine G_iw (n := 7) rfl rfl (by decide) (by decide) (by decide) ?_
    have hR := refs_up (a := 119) (k := 2) (x := wr ((s 119 2) + 1)) hR rfl
    refine G_go rfl rfl ?_
    refine G_ret rfl rfl ?_
    exact G_ret rfl rfl h
  · have h := h.2 c1
    refine G_go rfl rfl ?_
    refine G_go rfl rfl ?_
    refine G_le rfl rfl (fun c2 => ?_) (fun c2 => ?_)
    · have h := h.1 c2
      refine G_go rfl rfl ?_
      refine G_ret rfl rfl ?_
      refine G_go rfl rfl ?_
      refine G_go rfl rfl ?_
      refine G_brF rfl rfl rfl ?_
      refine G_go rfl rfl ?_
      refine G_lt rfl rfl (fun c3 => ?_) (fun c3 => ?_)
      · have h := h.1 c3
        refine G_go rfl rfl ?_
        refine G_go rfl rfl ?_
        refine G_go rfl rfl ?_
        refine G_brT rfl rfl rfl ?_
        refine G_go rfl rfl ?_
        refine G_brF rfl rfl rfl ?_
        refine G_go rfl rfl ?_
        refine G_go rfl rfl ?_
        refine G_call rfl rfl ?_
        refine G_go rfl rfl ?_
        refine G_go rfl rfl ?_
        refine G_go rfl rfl ?_
        refine G_go rfl rfl ?_
        refine G_brF rfl rfl rfl ?_
        refine G_go rfl rfl ?_
        refine G_go rfl rfl ?_
        refine G_rf rfl rfl (by decide) (hR 2 7 119 rfl) ?_
        refine G_go rfl rfl ?_
        refine G_brF rfl rfl rfl ?_
        refine G_go rfl rfl ?_
        refine G_rf rfl rfl (by decide) (hR 2 7 119 rfl) ?_
        refine G_go rfl rfl ?_
        refine G_go rfl rfl ?_
        refine G_ir (n := 7) rfl rfl (by decide) (by decide) (by decide) ?_
        refine G_go rfl rfl ?_
        refine G_go rfl rfl ?_
        refine G_iw (n := 7) rfl rfl (by decide) (by decide) (by decide) ?_
        have hR := refs_up (a := 119) (k := 4) (x := wr ((s 119 4) + 1)) hR rfl
        refine G_go rfl rfl ?_
        refine G_ret rfl rfl ?_
        exact G_ret rfl rfl h
      · have h := h.2 c3
        refine G_go rfl rfl ?_
        refine G_ge rfl rfl (fun c4 => ?_) (fun c4 => ?_)
        · have h := h.1 c4
          refine G_go rfl rfl ?_
          refine G_brF rfl rfl rfl ?_
          refine G_go rfl rfl ?_
          refine G_go rfl rfl ?_
          refine G_gt rfl rfl (fun c5 => ?_) (fun c5 => ?_)
          · have h := h.1 c5
            refine G_go rfl rfl ?_
            refine G_go rfl rfl ?_
            refine G_go rfl rfl ?_
            refine G_brF rfl rfl rfl ?_
            refine G_go rfl rfl ?_
            refine G_go rfl rfl ?_
            refine G_call rfl rfl ?_
            refine G_go rfl rfl ?_
            refine G_go rfl rfl ?_
            refine G_go rfl rfl ?_
            refine G_go rfl rfl ?_
            refine G_brF rfl rfl rfl ?_
            refine G_go rfl rfl ?_
            refine G_go rfl rfl ?_
            refine G_rf rfl rfl (by decide) (hR 2 7 119 rfl) ?_
            refine G_go rfl rfl ?_
            refine G_brF rfl rfl rfl ?_
            refine G_go rfl rfl ?_
            refine G_rf rfl rfl (by decide) (hR 2 7 119 rfl) ?_
            refine G_go rfl rfl ?_
            refine G_go rfl rfl ?_
            refine G_ir (n := 7) rfl rfl (by decide) (by decide) (by decide) ?_
            refine G_go rfl rfl ?_
            refine G_go rfl rfl ?_
            refine G_iw (n := 7) rfl rfl (by decide) (by decide) (by decide) ?_
            have hR := refs_up (a := 119) (k := 6) (x := wr ((s 119 6) + 1)) hR rfl
            refine G_go rfl rfl ?_
            refine G_ret rfl rfl ?_
            exact G_ret rfl rfl h
          · have h := h.2 c5
            refine G_go rfl rfl ?_
            refine G_go rfl rfl ?_
            refine G_gt rfl rfl (fun c6 => ?_) (fun c6 => ?_)
            · have h := h.1 c6
              refine G_go rfl rfl ?_
              refine G_go rfl rfl ?_
              refine G_go rfl rfl ?_
              refine G_brF rfl rfl rfl ?_
              refine G_go rfl rfl ?_
              refine G_go rfl rfl ?_
              refine G_call rfl rfl ?_
              refine G_go rfl rfl ?_
              refine G_go rfl rfl ?_
              refine G_go rfl rfl ?_
              refine G_go rfl rfl ?_
              refine G_brF rfl rfl rfl ?_
              refine G_go rfl rfl ?_
              refine G_go rfl rfl ?_
              refine G_rf rfl rfl (by decide) (hR 2 7 119 rfl) ?_
              refine G_go rfl rfl ?_
              refine G_brF rfl rfl rfl ?_
              refine G_go rfl rfl ?_
              refine G_rf rfl rfl (by decide) (hR 2 7 119 rfl) ?_
              refine G_go rfl rfl ?_
              refine G_go rfl rfl ?_
              refine G_ir (n := 7) rfl rfl (by decide) (by decide) (by decide) ?_
              refine G_go rfl rfl ?_
              refine G_go rfl rfl ?_
              refine G_iw (n := 7) rfl rfl (by decide) (by decide) (by decide) ?_
              have hR := refs_up (a := 119) (k := 6) (x := wr ((s 119 6) + 1)) hR rfl
              refine G_go rfl rfl ?_
              refine G_ret rfl rfl ?_
              exact G_ret rfl rfl h
            · have h := h.2 c6
              refine G_go rfl rfl ?_
              refine G_rf rfl rfl (by decide) (hR 2 0 3 rfl) ?_
              refine G_call rfl rfl ?_
              refine G_go rfl rfl ?_
              refine G_rd rfl rfl (by decide) ?_
              refine G_go rfl rfl ?_
              refine G_lt rfl rfl (fun c7 => ?_) (fun c7 => ?_)
              · have h := h.1 c7
                refine G_go rfl rfl ?_
                refine G_ret rfl rfl ?_
                refine G_brT rfl rfl rfl ?_
                refine G_go rfl rfl ?_
                refine G_brT rfl rfl rfl ?_
                refine G_go rfl rfl ?_
                refine G_rf rfl rfl (by decide) (hR 2 4 33 rfl) ?_
                refine G_call rfl rfl ?_
                refine G_go rfl rfl ?_
                refine G_go rfl rfl ?_
                refine G_wr rfl rfl (by decide) ?_
                have hR := refs_up (a := 33) (k := 2) (x := 0) hR rfl
                refine G_ret rfl rfl ?_
                refine G_go rfl rfl ?_
                refine G_rf rfl rfl (by decide) (hR 2 0 3 rfl) ?_
                refine G_go rfl rfl ?_
                refine G_go rfl rfl ?_
                refine G_go rfl rfl ?_
                refine G_call rfl rfl ?_
                refine G_go rfl rfl ?_
                refine G_call rfl rfl ?_
                refine G_go rfl rfl ?_
                refine G_rd rfl rfl (by decide) ?_
                refine G_go rfl rfl ?_
                refine G_lt rfl rfl (fun _ => ?_) (fun hc => absurd (show 6 ≤ s 3 9 from hc) (by omega))
                refine G_go rfl rfl ?_
                refine G_ret rfl rfl ?_
                refine G_brT rfl rfl rfl ?_
                refine G_go rfl rfl ?_
                refine G_rf rfl rfl (by decide) (hR 3 0 4 rfl) ?_
                refine G_go rfl rfl ?_
                refine G_rd rfl rfl (by decide) ?_
                refine G_go rfl rfl ?_
                obtain ⟨g8, h⟩ := h
                refine G_iw (n := 6) rfl rfl (by decide) (by decide) g8 ?_
                have hR := refs_up (a := 4) (k := (s 3 9).toNat) (x := a0) hR rfl
                refine G_go rfl rfl ?_
                refine G_rf rfl rfl (by decide) (hR 3 1 5 rfl) ?_
                refine G_go rfl rfl ?_
                refine G_rd rfl rfl (by decide) ?_
                refine G_go rfl rfl ?_
                refine G_iw (n := 6) rfl rfl (by decide) (by decide) g8 ?_
                have hR := refs_up (a := 5) (k := (s 3 9).toNat) (x := a1) hR rfl
                refine G_go rfl rfl ?_
                refine G_rf rfl rfl (by decide) (hR 3 2 6 rfl) ?_
                refine G_go rfl rfl ?_
                refine G_rd rfl rfl (by decide) ?_
                refine G_go rfl rfl ?_
                refine G_iw (n := 6) rfl rfl (by decide) (by decide) g8 ?_
                have hR := refs_up (a := 6) (k := (s 3 9).toNat) (x := a2) hR rfl
                refine G_go rfl rfl ?_
                refine G_rf rfl rfl (by decide) (hR 3 3 7 rfl) ?_
                refine G_go rfl rfl ?_
                refine G_rd rfl rfl (by decide) ?_
                refine G_go rfl rfl ?_
                refine G_iw (n := 6) rfl rfl (by decide) (by decide) g8 ?_
                have hR := refs_up (a := 7) (k := (s 3 9).toNat) (x := 0) hR rfl
                refine G_go rfl rfl ?_
                refine G_rf rfl rfl (by decide) (hR 3 4 8 rfl) ?_
                refine G_go rfl rfl ?_
                refine G_rd rfl rfl (by decide) ?_
                refine G_go rfl rfl ?_
                refine G_iw (n := 6) rfl rfl (by decide) (by decide) g8 ?_
                have hR := refs_up (a := 8) (k := (s 3 9).toNat) (x := 50) hR rfl
                refine G_go rfl rfl ?_
                refine G_rf rfl rfl (by decide) (hR 3 5 9 rfl) ?_
                refine G_go rfl rfl ?_
                refine G_rd rfl rfl (by decide) ?_
                refine G_go rfl rfl ?_
                refine G_zw (n := 6) rfl rfl (by decide) (by decide) g8 (by decide) ?_
                have hR := refs_up (a := 9) (k := (s 3 9).toNat) (x := 0) hR rfl
                refine G_go rfl rfl ?_
                refine G_rf rfl rfl (by decide) (hR 3 6 10 rfl) ?_
                refine G_go rfl rfl ?_
                refine G_rd rfl rfl (by decide) ?_
                refine G_go rfl rfl ?_
                refine G_iw (n := 6) rfl rfl (by decide) (by decide) g8 ?_
                have hR := refs_up (a := 10) (k := (s 3 9).toNat) (x := 0) hR rfl
                refine G_go rfl rfl ?_
                refine G_rf rfl rfl (by decide) (hR 3 7 11 rfl) ?_
                refine G_go rfl rfl ?_
                refine G_rd rfl rfl (by decide) ?_
                refine G_go rfl rfl ?_
                refine G_iw (n := 6) rfl rfl (by decide) (by decide) g8 ?_
                have hR := refs_up (a := 11) (k := (s 3 9).toNat) (x := (-1)) hR rfl
                refine G_go rfl rfl ?_
                refine G_go rfl rfl ?_
                refine G_rd rfl rfl (by decide) ?_
                refine G_go rfl rfl ?_
                refine G_go rfl rfl ?_
                refine G_wr rfl rfl (by decide) ?_
                have hR := refs_up (a := 3) (k := 9) (x := wr ((s 3 9) + 1)) hR rfl
                refine G_ret rfl rfl ?_
                refine G_go rfl rfl ?_
                refine G_rf rfl rfl (by decide) (hR 2 0 3 rfl) ?_
                refine G_rdv (v := wr ((s 3 9) + 1)) rfl rfl (by decide) (by simp [upS]) ?_
                refine G_go rfl rfl ?_
                refine G_go rfl rfl ?_
                exact G_ret rfl rfl h
              · have h := h.2 c7
                refine G_go rfl rfl ?_
                refine G_go rfl rfl ?_
                refine G_ret rfl rfl ?_
                refine G_brF rfl rfl rfl ?_
                refine G_go rfl rfl ?_
                refine G_go rfl rfl ?_
                refine G_go rfl rfl ?_
                refine G_brF rfl rfl rfl ?_
                refine G_go rfl rfl ?_
                refine G_go rfl rfl ?_
                refine G_call rfl rfl ?_
                refine G_go rfl rfl ?_
                refine G_go rfl rfl ?_
                refine G_go rfl rfl ?_
                refine G_go rfl rfl ?_
                refine G_brF rfl rfl rfl ?_
                refine G_go rfl rfl ?_
                refine G_go rfl rfl ?_
                refine G_rf rfl rfl (by decide) (hR 2 7 119 rfl) ?_
                refine G_go rfl rfl ?_
                refine G_brF rfl rfl rfl ?_
                refine G_go rfl rfl ?_
                refine G_rf rfl rfl (by decide) (hR 2 7 119 rfl) ?_
                refine G_go rfl rfl ?_
                refine G_go rfl rfl ?_
                refine G_ir (n := 7) rfl rfl (by decide) (by decide) (by decide) ?_
                refine G_go rfl rfl ?_
                refine G_go rfl rfl ?_
                refine G_iw (n := 7) rfl rfl (by decide) (by decide) (by decide) ?_
                have hR := refs_up (a := 119) (k := 6) (x := wr ((s 119 6) + 1)) hR rfl
                refine G_go rfl rfl ?_
                refine G_ret rfl rfl ?_
                exact G_ret rfl rfl h
        · have h := h.2 c4
          refine G_go rfl rfl ?_
          refine G_go rfl rfl ?_
          refine G_go rfl rfl ?_
          refine G_brT rfl rfl rfl ?_
          refine G_go rfl rfl ?_
          refine G_brF rfl rfl rfl ?_
          refine G_go rfl rfl ?_
          refine G_go rfl rfl ?_
          refine G_call rfl rfl ?_
          refine G_go rfl rfl ?_
          refine G_go rfl rfl ?_
          refine G_go rfl rfl ?_
          refine G_go rfl rfl ?_
          refine G_brF rfl rfl rfl ?_
          refine G_go rfl rfl ?_
          refine G_go rfl rfl ?_
          refine G_rf rfl rfl (by decide) (hR 2 7 119 rfl) ?_
          refine G_go rfl rfl ?_
          refine G_brF rfl rfl rfl ?_
          refine G_go rfl rfl ?_
          refine G_rf rfl rfl (by decide) (hR 2 7 119 rfl) ?_
          refine G_go rfl rfl ?_
          refine G_go rfl rfl ?_
          refine G_ir (n := 7) rfl rfl (by decide) (by decide) (by decide) ?_
          refine G_go rfl rfl ?_
          refine G_go rfl rfl ?_
          refine G_iw (n := 7) rfl rfl (by decide) (by decide) (by decide) ?_
          have hR := refs_up (a := 119) (k := 4) (x := wr ((s 119 4) + 1)) hR rfl
          refine G_go rfl rfl ?_
          refine G_ret rfl rfl ?_
          exact G_ret rfl rfl h
    · have h := h.2 c2
      refine G_go rfl rfl ?_
      refine G_go rfl rfl ?_
      refine G_ret rfl rfl ?_
      refine G_go rfl rfl ?_
      refine G_go rfl rfl ?_
      refine G_brT rfl rfl rfl ?_
      refine G_go rfl rfl ?_
      refine G_brT rfl rfl rfl ?_
      refine G_go rfl rfl ?_
      refine G_brF rfl rfl rfl ?_
      refine G_go rfl rfl ?_
      refine G_go rfl rfl ?_
      refine G_call rfl rfl ?_
      refine G_go rfl rfl ?_
      refine G_go rfl rfl ?_
      refine G_go rfl rfl ?_
      refine G_go rfl rfl ?_
      refine G_brF rfl rfl rfl ?_
      refine G_go rfl rfl ?_
      refine G_go rfl rfl ?_
      refine G_rf rfl rfl (by decide) (hR 2 7 119 rfl) ?_
      refine G_go rfl rfl ?_
      refine G_brF rfl rfl rfl ?_
      refine G_go rfl rfl ?_
      refine G_rf rfl rfl (by decide) (hR 2 7 119 rfl) ?_
      refine G_go rfl rfl ?_
      refine G_go rfl rfl ?_
      refine G_ir (n := 7) rfl rfl (by decide) (by decide) (by decide) ?_
      refine G_go rfl rfl ?_
      refine G_go rfl rfl ?_
      refine G_iw (n := 7) rfl rfl (by decide) (by decide) (by decide) ?_
      have hR := refs_up (a := 119) (k := 2) (x := wr ((s 119 2) + 1)) hR rfl
      refine G_go rfl rfl ?_
      refine G_ret rfl rfl ?_
      exact G_ret rfl rfl h
theorem sb_X7_person_0 (n : Nat) (s : Nat → Nat → Int) (Q : List Vl → Sto → Prop) (a0 : Int) (a1 : Int) (a2 : Int) (hR : refs s)
    (h : (a0 < 0 → Q [(1, (-2))] (n, upS (upS s 120 10 0) 129 2 (wr ((s 129 2) + 1)))) ∧ (a0 ≥ 0 → (a0 > 5 → Q [(1, (-2))] (n, upS (upS s 120 10 0) 129 2 (wr ((s 129 2) + 1)))) ∧ (a0 ≤ 5 → (a1 < 0 → Q [(1, (-4))] (n, upS (upS s 120 10 0) 129 4 (wr ((s 129 4) + 1)))) ∧ (0 ≤ a1 → (0 ≤ a2 → (9 < a1 → Q [(1, (-6))] (n, upS (upS s 120 10 0) 129 6 (wr ((s 129 6) + 1)))) ∧ (a1 ≤ 9 → (99 < a2 → Q [(1, (-6))] (n, upS (upS s 120 10 0) 129 6 (wr ((s 129 6) + 1)))) ∧ (a2 ≤ 99 → (s 120 0 ≠ 6 → (0 ≤ s 120 0 ∧ s 120 0 < 6) ∧ (Q [(1, wr ((wr ((s 120 0) + 1)) - 1))] (n, upS (upS (upS (upS (upS (upS (upS (upS (upS (upS (upS s 120 10 0) 121 ((s 120 0).toNat) a0) 122 ((s 120 0).toNat) a1) 123 ((s 120 0).toNat) a2) 124 ((s 120 0).toNat) 0) 125 ((s 120 0).toNat) 50) 126 ((s 120 0).toNat) 0) 127 ((s 120 0).toNat) 0) 128 ((s 120 0).toNat) (-9)) 120 0 (wr ((s 120 0) + 1))) 120 29 0))) ∧ (s 120 0 = 6 → Q [(1, (-6))] (n, upS (upS s 120 10 0) 129 6 (wr ((s 129 6) + 1))))))) ∧ (a2 < 0 → Q [(1, (-4))] (n, upS (upS s 120 10 0) 129 4 (wr ((s 129 4) + 1)))))))) :
    G 120 140 202 0 [(3, 120), (1, a0), (1, a1), (1, a2), (0, 0)] [] (n, s) Q := by
  refine G_go rfl rfl ?_
  refine G_go rfl rfl ?_
  refine G_wr rfl rfl (by decide) ?_
  have hR := refs_up (a := 120) (k := 10) (x := 0) hR rfl
  refine G_go rfl rfl ?_
  refine G_go rfl rfl ?_
  refine G_go rfl rfl ?_
  refine G_go rfl rfl ?_
  refine G_go rfl rfl ?_
  refine G_go rfl rfl ?_
  refine G_call rfl rfl ?_
  refine G_go rfl rfl ?_
  refine G_go rfl rfl ?_
  refine G_go rfl rfl ?_
  refine G_lt rfl rfl (fun c1 => ?_) (fun c1 => ?_)
  · have c1 := xl_lt c1
    have h := h.1 c1
    refine G_go rfl rfl ?_
    refine G_ret rfl rfl ?_
    refine G_brF rfl rfl rfl ?_
    refine G_go rfl rfl ?_
    refine G_go rfl rfl ?_
    refine G_go rfl rfl ?_
    refine G_go rfl rfl ?_
    refine G_brF rfl rfl rfl ?_
    refine G_go rfl rfl ?_
    refine G_go rfl rfl ?_
    refine G_call rfl rfl ?_
    refine G_go rfl rfl ?_
    refine G_rf rfl rfl (by decide) (hR 120 11 129 rfl) ?_
    refine G_go rfl rfl ?_
    refine G_go rfl rfl ?_
    refine G_go rfl rfl ?_
    refine G_ir (n := 7) rfl rfl (by decide) (by decide) (by decide) ?_
    refine G_go rfl rfl ?_
    refine G_go rfl rfl ?_
    refine G_iw (n := 7) rfl rfl (by decide) (by decide) (by decide) ?_
    have hR := refs_up (a := 129) (k := 2) (x := wr ((s 129 2) + 1)) hR rfl
    refine G_go rfl rfl ?_
    refine G_ret rfl rfl ?_
    exact G_ret rfl rfl h
  · have c1 := xl_ge c1
    have h := h.2 c1
    refine G_go rfl rfl ?_
    refine G_go rfl rfl ?_
    refine G_go rfl rfl ?_
    refine G_gt rfl rfl (fun c2 => ?_) (fun c2 => ?_)
    · have c2 := xl_gt c2
      have h := h.1 c2
      refine G_go rfl rfl ?_
      refine G_ret rfl rfl ?_
      refine G_brF rfl rfl rfl ?_
      refine G_go rfl rfl ?_
      refine G_go rfl rfl ?_
      refine G_go rfl rfl ?_
      refine G_go rfl rfl ?_
      refine G_brF rfl rfl rfl ?_
      refine G_go rfl rfl ?_
      refine G_go rfl rfl ?_
      refine G_call rfl rfl ?_
      refine G_go rfl rfl ?_
      refine G_rf rfl rfl (by decide) (hR 120 11 129 rfl) ?_
      refine G_go rfl rfl ?_
      refine G_go rfl rfl ?_
      refine G_go rfl rfl ?_
      refine G_ir (n := 7) rfl rfl (by decide) (by decide) (by decide) ?_
      refine G_go rfl rfl ?_
      refine G_go rfl rfl ?_
      refine G_iw (n := 7) rfl rfl (by decide) (by decide) (by decide) ?_
      have hR := refs_up (a := 129) (k := 2) (x := wr ((s 129 2) + 1)) hR rfl
      refine G_go rfl rfl ?_
      refine G_ret rfl rfl ?_
      exact G_ret rfl rfl h
    · have c2 := xl_le c2
      have h := h.2 c2
      refine G_go rfl rfl ?_
      refine G_go rfl rfl ?_
      refine G_ret rfl rfl ?_
      refine G_brT rfl rfl rfl ?_
      refine G_go rfl rfl ?_
      refine G_lt rfl rfl (fun c3 => ?_) (fun c3 => ?_)
      · have h := h.1 c3
        refine G_go rfl rfl ?_
        refine G_go rfl rfl ?_
        refine G_go rfl rfl ?_
        refine G_go rfl rfl ?_
        refine G_brF rfl rfl rfl ?_
        refine G_go rfl rfl ?_
        refine G_go rfl rfl ?_
        refine G_call rfl rfl ?_
        refine G_go rfl rfl ?_
        refine G_rf rfl rfl (by decide) (hR 120 11 129 rfl) ?_
        refine G_go rfl rfl ?_
        refine G_go rfl rfl ?_
        refine G_go rfl rfl ?_
        refine G_ir (n := 7) rfl rfl (by decide) (by decide) (by decide) ?_
        refine G_go rfl rfl ?_
        refine G_go rfl rfl ?_
        refine G_iw (n := 7) rfl rfl (by decide) (by decide) (by decide) ?_
        have hR := refs_up (a := 129) (k := 4) (x := wr ((s 129 4) + 1)) hR rfl
        refine G_go rfl rfl ?_
        refine G_ret rfl rfl ?_
        exact G_ret rfl rfl h
      · have h := h.2 c3
        refine G_go rfl rfl ?_
        refine G_ge rfl rfl (fun c4 => ?_) (fun c4 => ?_)
        · have h := h.1 c4
          refine G_go rfl rfl ?_
          refine G_go rfl rfl ?_
          refine G_gt rfl rfl (fun c5 => ?_) (fun c5 => ?_)
          · have h := h.1 c5
            refine G_go rfl rfl ?_
            refine G_go rfl rfl ?_
            refine G_go rfl rfl ?_
            refine G_brF rfl rfl rfl ?_
            refine G_go rfl rfl ?_
            refine G_go rfl rfl ?_
            refine G_call rfl rfl ?_
            refine G_go rfl rfl ?_
            refine G_rf rfl rfl (by decide) (hR 120 11 129 rfl) ?_
            refine G_go rfl rfl ?_
            refine G_go rfl rfl ?_
            refine G_go rfl rfl ?_
            refine G_ir (n := 7) rfl rfl (by decide) (by decide) (by decide) ?_
            refine G_go rfl rfl ?_
            refine G_go rfl rfl ?_
            refine G_iw (n := 7) rfl rfl (by decide) (by decide) (by decide) ?_
            have hR := refs_up (a := 129) (k := 6) (x := wr ((s 129 6) + 1)) hR rfl
            refine G_go rfl rfl ?_
            refine G_ret rfl rfl ?_
            exact G_ret rfl rfl h
          · have h := h.2 c5
            refine G_go rfl rfl ?_
            refine G_go rfl rfl ?_
            refine G_gt rfl rfl (fun c6 => ?_) (fun c6 => ?_)
            · have h := h.1 c6
              refine G_go rfl rfl ?_
              refine G_go rfl rfl ?_
              refine G_go rfl rfl ?_
              refine G_brF rfl rfl rfl ?_
              refine G_go rfl rfl ?_
              refine G_go rfl rfl ?_
              refine G_call rfl rfl ?_
              refine G_go rfl rfl ?_
              refine G_rf rfl rfl (by decide) (hR 120 11 129 rfl) ?_
              refine G_go rfl rfl ?_
              refine G_go rfl rfl ?_
              refine G_go rfl rfl ?_
              refine G_ir (n := 7) rfl rfl (by decide) (by decide) (by decide) ?_
              refine G_go rfl rfl ?_
              refine G_go rfl rfl ?_
              refine G_iw (n := 7) rfl rfl (by decide) (by decide) (by decide) ?_
              have hR := refs_up (a := 129) (k := 6) (x := wr ((s 129 6) + 1)) hR rfl
              refine G_go rfl rfl ?_
              refine G_ret rfl rfl ?_
              exact G_ret rfl rfl h
            · have h := h.2 c6
              refine G_go rfl rfl ?_
              refine G_rd rfl rfl (by decide) ?_
              refine G_go rfl rfl ?_
              refine G_ne rfl rfl (fun c7 => ?_) (fun c7 => ?_)
              · have h := h.1 c7
                refine G_go rfl rfl ?_
                refine G_brT rfl rfl rfl ?_
                refine G_go rfl rfl ?_
                refine G_go rfl rfl ?_
                refine G_go rfl rfl ?_
                refine G_go rfl rfl ?_
                refine G_call rfl rfl ?_
                refine G_go rfl rfl ?_
                refine G_rf rfl rfl (by decide) (hR 120 1 121 rfl) ?_
                refine G_go rfl rfl ?_
                refine G_rd rfl rfl (by decide) ?_
                refine G_go rfl rfl ?_
                obtain ⟨g8, h⟩ := h
                refine G_iw (n := 6) rfl rfl (by decide) (by decide) g8 ?_
                have hR := refs_up (a := 121) (k := (s 120 0).toNat) (x := a0) hR rfl
                refine G_go rfl rfl ?_
                refine G_rf rfl rfl (by decide) (hR 120 2 122 rfl) ?_
                refine G_go rfl rfl ?_
                refine G_rd rfl rfl (by decide) ?_
                refine G_go rfl rfl ?_
                refine G_iw (n := 6) rfl rfl (by decide) (by decide) g8 ?_
                have hR := refs_up (a := 122) (k := (s 120 0).toNat) (x := a1) hR rfl
                refine G_go rfl rfl ?_
                refine G_rf rfl rfl (by decide) (hR 120 3 123 rfl) ?_
                refine G_go rfl rfl ?_
                refine G_rd rfl rfl (by decide) ?_
                refine G_go rfl rfl ?_
                refine G_iw (n := 6) rfl rfl (by decide) (by decide) g8 ?_
                have hR := refs_up (a := 123) (k := (s 120 0).toNat) (x := a2) hR rfl
                refine G_go rfl rfl ?_
                refine G_rf rfl rfl (by decide) (hR 120 4 124 rfl) ?_
                refine G_go rfl rfl ?_
                refine G_rd rfl rfl (by decide) ?_
                refine G_go rfl rfl ?_
                refine G_iw (n := 6) rfl rfl (by decide) (by decide) g8 ?_
                have hR := refs_up (a := 124) (k := (s 120 0).toNat) (x := 0) hR rfl
                refine G_go rfl rfl ?_
                refine G_rf rfl rfl (by decide) (hR 120 5 125 rfl) ?_
                refine G_go rfl rfl ?_
                refine G_rd rfl rfl (by decide) ?_
                refine G_go rfl rfl ?_
                refine G_iw (n := 6) rfl rfl (by decide) (by decide) g8 ?_
                have hR := refs_up (a := 125) (k := (s 120 0).toNat) (x := 50) hR rfl
                refine G_go rfl rfl ?_
                refine G_rf rfl rfl (by decide) (hR 120 6 126 rfl) ?_
                refine G_go rfl rfl ?_
                refine G_rd rfl rfl (by decide) ?_
                refine G_go rfl rfl ?_
                refine G_iw (n := 6) rfl rfl (by decide) (by decide) g8 ?_
                have hR := refs_up (a := 126) (k := (s 120 0).toNat) (x := 0) hR rfl
                refine G_go rfl rfl ?_
                refine G_rf rfl rfl (by decide) (hR 120 7 127 rfl) ?_
                refine G_go rfl rfl ?_
                refine G_rd rfl rfl (by decide) ?_
                refine G_go rfl rfl ?_
                refine G_iw (n := 6) rfl rfl (by decide) (by decide) g8 ?_
                have hR := refs_up (a := 127) (k := (s 120 0).toNat) (x := 0) hR rfl
                refine G_go rfl rfl ?_
                refine G_rf rfl rfl (by decide) (hR 120 8 128 rfl) ?_
                refine G_go rfl rfl ?_
                refine G_rd rfl rfl (by decide) ?_
                refine G_go rfl rfl ?_
                refine G_iw (n := 6) rfl rfl (by decide) (by decide) g8 ?_
                have hR := refs_up (a := 128) (k := (s 120 0).toNat) (x := (-9)) hR rfl
                refine G_go rfl rfl ?_
                refine G_go rfl rfl ?_
                refine G_rd rfl rfl (by decide) ?_
                refine G_go rfl rfl ?_
                refine G_go rfl rfl ?_
                refine G_wr rfl rfl (by decide) ?_
                have hR := refs_up (a := 120) (k := 0) (x := wr ((s 120 0) + 1)) hR rfl
                refine G_ret rfl rfl ?_
                refine G_go rfl rfl ?_
                refine G_go rfl rfl ?_
                refine G_wr rfl rfl (by decide) ?_
                have hR := refs_up (a := 120) (k := 29) (x := 0) hR rfl
                refine G_go rfl rfl ?_
                refine G_rdv (v := wr ((s 120 0) + 1)) rfl rfl (by decide) (by simp [upS]) ?_
                refine G_go rfl rfl ?_
                refine G_go rfl rfl ?_
                exact G_ret rfl rfl h
              · have h := h.2 c7
                refine G_go rfl rfl ?_
                refine G_go rfl rfl ?_
                refine G_go rfl rfl ?_
                refine G_brF rfl rfl rfl ?_
                refine G_go rfl rfl ?_
                refine G_go rfl rfl ?_
                refine G_call rfl rfl ?_
                refine G_go rfl rfl ?_
                refine G_rf rfl rfl (by decide) (hR 120 11 129 rfl) ?_
                refine G_go rfl rfl ?_
                refine G_go rfl rfl ?_
                refine G_go rfl rfl ?_
                refine G_ir (n := 7) rfl rfl (by decide) (by decide) (by decide) ?_
                refine G_go rfl rfl ?_
                refine G_go rfl rfl ?_
                refine G_iw (n := 7) rfl rfl (by decide) (by decide) (by decide) ?_
                have hR := refs_up (a := 129) (k := 6) (x := wr ((s 129 6) + 1)) hR rfl
                refine G_go rfl rfl ?_
                refine G_ret rfl rfl ?_
                exact G_ret rfl rfl h
        · have h := h.2 c4
          refine G_go rfl rfl ?_
          refine G_go rfl rfl ?_
          refine G_go rfl rfl ?_
          refine G_go rfl rfl ?_
          refine G_brF rfl rfl rfl ?_
          refine G_go rfl rfl ?_
          refine G_go rfl rfl ?_
          refine G_call rfl rfl ?_
          refine G_go rfl rfl ?_
          refine G_rf rfl rfl (by decide) (hR 120 11 129 rfl) ?_
          refine G_go rfl rfl ?_
          refine G_go rfl rfl ?_
          refine G_go rfl rfl ?_
          refine G_ir (n := 7) rfl rfl (by decide) (by decide) (by decide) ?_
          refine G_go rfl rfl ?_
          refine G_go rfl rfl ?_
          refine G_iw (n := 7) rfl rfl (by decide) (by decide) (by decide) ?_
          have hR := refs_up (a := 129) (k := 4) (x := wr ((s 129 4) + 1)) hR rfl
          refine G_go rfl rfl ?_
          refine G_ret rfl rfl ?_
          exact G_ret rfl rfl h
theorem op_feed (n : Nat) (s t : Nat → Nat → Int) (h : REL s t) (a0 : Int) : G 2 120 81 0 [(3, 2), (1, a0), (0, 0)] [] (n, s) (fun r s1 => G 120 140 178 0 [(3, 120), (1, a0)] [] (n, t) (Post n r s1)) := by
  obtain ⟨hl1, hl2, hl3⟩ := h.l
  refine sb_X6_feed_0 n s _ a0 h.1 ?_
  repeat' first | refine And.intro ?_ ?_ | intro _
  all_goals first | omega | skip
  all_goals refine sb_X7_feed_0 n t _ a0 h.2.1 ?_
  all_goals repeat' first | refine And.intro ?_ ?_ | intro _
  all_goals first | omega | exact post_ref h _ (by decide) | skip
  refine ⟨_, rfl, by rw [hl1], ?_, rfl, rfl⟩
  refine ⟨(refs_up (refs_up h.1 rfl) rfl), (refs_up (refs_up (refs_up h.2.1 rfl) rfl) rfl), relN_fr h.n ?_ ?_ ?_ ?_ ?_ ?_, relI_fr h.i ?_ ?_ ?_ ?_ ?_ ?_, relH_fr h.h ?_ ?_ ?_ ?_ ?_, ?_, relR_fr h.r ?_ ?_ ?_ ?_, relF_fr h.f ?_ ?_⟩
  all_goals first | rfl | (intro a h1 h2; funext z; dsimp only [upS]; (repeat rw [if_neg (by omega)]); done) | skip
  refine ⟨by show wr _ = wr _; rw [hl1], by show 0 ≤ wr _ ∧ wr _ ≤ 96; rw [wr_id (by omega) (by omega)]; omega, fun k hk => ?_⟩
  have hk : (k : Int) < wr (s 115 1 + 1) := hk
  rw [wr_id (by omega) (by omega)] at hk
  show upS s 116 (s 115 1).toNat a0 116 k = upS (upS t 120 10 0) 131 (t 120 14).toNat a0 131 k ∧ 0 ≤ upS s 116 (s 115 1).toNat a0 116 k ∧ upS s 116 (s 115 1).toNat a0 116 k ≤ 255
  rw [← hl1]
  by_cases hkk : k = (s 115 1).toNat
  · subst hkk
    simp [upS]
    omega
  · have := hl3 k (by omega)
    simpa [upS, hkk] using this

theorem op_row (n : Nat) (s t : Nat → Nat → Int) (h : REL s t) (a0 : Int) : G 2 120 121 0 [(3, 2), (1, a0), (0, 0)] [] (n, s) (fun r s1 => G 120 140 212 0 [(3, 120), (1, a0)] [] (n, t) (Post n r s1)) := by
  obtain ⟨hl1, hl2, hl3⟩ := h.r
  refine sb_X6_row_0 n s _ a0 h.1 ?_
  repeat' first | refine And.intro ?_ ?_ | intro _
  all_goals first | omega | skip
  all_goals refine sb_X7_row_0 n t _ a0 h.2.1 ?_
  all_goals repeat' first | refine And.intro ?_ ?_ | intro _
  all_goals first | omega | exact post_ref h _ (by decide) | skip
  refine ⟨_, rfl, by rw [hl1], ?_, rfl, rfl⟩
  refine ⟨(refs_up (refs_up h.1 rfl) rfl), (refs_up (refs_up (refs_up h.2.1 rfl) rfl) rfl), relN_fr h.n ?_ ?_ ?_ ?_ ?_ ?_, relI_fr h.i ?_ ?_ ?_ ?_ ?_ ?_, relH_fr h.h ?_ ?_ ?_ ?_ ?_, relL_fr h.l ?_ ?_ ?_ ?_, ?_, relF_fr h.f ?_ ?_⟩
  all_goals first | rfl | (intro a h1 h2; funext z; dsimp only [upS]; (repeat rw [if_neg (by omega)]); done) | skip
  refine ⟨by show wr _ = wr _; rw [hl1], by show 0 ≤ wr _ ∧ wr _ ≤ 12; rw [wr_id (by omega) (by omega)]; omega, fun k hk => ?_⟩
  have hk : (k : Int) < wr (s 117 1 + 1) := hk
  rw [wr_id (by omega) (by omega)] at hk
  show upS s 118 (s 117 1).toNat a0 118 k = upS (upS t 120 10 0) 139 (t 120 31).toNat a0 139 k ∧ 0 ≤ upS s 118 (s 117 1).toNat a0 118 k ∧ upS s 118 (s 117 1).toNat a0 118 k ≤ 99
  rw [← hl1]
  by_cases hkk : k = (s 117 1).toNat
  · subst hkk
    simp [upS]
    omega
  · have := hl3 k (by omega)
    simpa [upS, hkk] using this

theorem op_clear (n : Nat) (s t : Nat → Nat → Int) (h : REL s t) : G 2 120 75 0 [(3, 2), (0, 0)] [] (n, s) (fun r s1 => G 120 140 164 0 [(3, 120), (0, 0)] [] (n, t) (Post n r s1)) := by
  obtain ⟨hl1, hl2, hl3⟩ := h.r
  refine sb_X6_clear_0 n s _ h.1 ?_
  repeat' first | refine And.intro ?_ ?_ | intro _
  all_goals first | omega | skip
  all_goals refine sb_X7_clear_0 n t _ h.2.1 ?_
  all_goals repeat' first | refine And.intro ?_ ?_ | intro _
  all_goals first | omega | exact post_ref h _ (by decide) | skip
  refine ⟨_, rfl, by rw [hl1], ?_, rfl, rfl⟩
  refine ⟨(refs_up h.1 rfl), (refs_up (refs_up h.2.1 rfl) rfl), relN_fr h.n ?_ ?_ ?_ ?_ ?_ ?_, relI_fr h.i ?_ ?_ ?_ ?_ ?_ ?_, relH_fr h.h ?_ ?_ ?_ ?_ ?_, relL_fr h.l ?_ ?_ ?_ ?_, ?_, relF_fr h.f ?_ ?_⟩
  all_goals first | rfl | (intro a h1 h2; funext z; dsimp only [upS]; (repeat rw [if_neg (by omega)]); done) | skip
  exact ⟨rfl, ⟨Int.le_refl 0, by show (0 : Int) ≤ 12; decide⟩, fun k hk => absurd (show (k : Int) < 0 from hk) (by omega)⟩

theorem op_person (n : Nat) (s t : Nat → Nat → Int) (h : REL s t) (a0 : Int) (a1 : Int) (a2 : Int) : G 2 120 115 0 [(3, 2), (1, a0), (1, a1), (1, a2), (0, 0)] [] (n, s) (fun r s1 => G 120 140 202 0 [(3, 120), (1, a0), (1, a1), (1, a2), (0, 0)] [] (n, t) (Post n r s1)) := by
  obtain ⟨hn1, hn2, hn3, hn4, hn5, hn6⟩ := h.n
  refine sb_X6_person_0 n s _ a0 a1 a2 h.1 ?_
  repeat' first | refine And.intro ?_ ?_ | intro _
  all_goals first | omega | skip
  all_goals refine sb_X7_person_0 n t _ a0 a1 a2 h.2.1 ?_
  all_goals repeat' first | refine And.intro ?_ ?_ | intro _
  all_goals first | omega | exact post_ref h _ (by decide) | skip
  refine ⟨_, rfl, by rw [hn1], ?_, rfl, rfl⟩
  refine ⟨(refs_up (refs_up (refs_up (refs_up (refs_up (refs_up (refs_up (refs_up (refs_up (refs_up h.1 rfl) rfl) rfl) rfl) rfl) rfl) rfl) rfl) rfl) rfl), (refs_up (refs_up (refs_up (refs_up (refs_up (refs_up (refs_up (refs_up (refs_up (refs_up (refs_up h.2.1 rfl) rfl) rfl) rfl) rfl) rfl) rfl) rfl) rfl) rfl) rfl), ?_, relI_fr h.i ?_ ?_ ?_ ?_ ?_ ?_, ?_, relL_fr h.l ?_ ?_ ?_ ?_, relR_fr h.r ?_ ?_ ?_ ?_, relF_fr h.f ?_ ?_⟩
  all_goals first | rfl | (intro a h1 h2; funext z; dsimp only [upS]; (repeat rw [if_neg (by omega)]); done) | skip
  · have hw : wr (t 120 0 + 1) = t 120 0 + 1 := wr_id (by omega) (by omega)
    have he : (s 3 9).toNat = (t 120 0).toNat := by rw [hn1]
    refine ⟨by show wr _ = wr _; rw [hn1], hn2, by show 0 ≤ wr _ ∧ wr _ ≤ 6; omega, hn4, fun p hp => ?_, fun p hp => ?_⟩
    · have hp : (p : Int) < wr (t 120 0 + 1) := hp
      rw [hw] at hp
      by_cases hpp : p = (t 120 0).toNat
      · subst hpp
        simp [vw, upS]
        omega
      · have h0 := hn5 p (by omega)
        unfold vw at h0 ⊢
        simp [upS, hpp, hw] at h0 ⊢
        omega
    · have hp : (p : Int) < wr (t 120 0 + 1) := hp
      rw [hw] at hp
      by_cases hpp : p = (t 120 0).toNat
      · subst hpp
        simp [vw, upS, he]
      · have h0 := hn6 p (by omega)
        unfold vw at h0 ⊢
        simp [upS, hpp, he] at h0 ⊢
        exact h0
  · exact ⟨rfl, ⟨Int.le_refl 0, by show (0 : Int) ≤ 8; decide⟩, h.h.2.2.1, fun k hk => absurd (show (k : Int) < 0 from hk) (by omega)⟩
end
section
/-! LOOPS UP, AND WHAT IS KNOWN OF A PERSON. -/
def itr {α : Type} (f : Nat → α → α) (a : α) : Nat → α
  | 0 => a
  | k + 1 => f k (itr f a k)
theorem itr_ext {α : Type} {f g : Nat → α → α} (a : α) : ∀ N, (∀ k b, k < N → f k b = g k b) → itr f a N = itr g a N
  | 0, _ => rfl
  | N + 1, h => by
    show f N (itr f a N) = g N (itr g a N)
    rw [itr_ext a N (fun k b hk => h k b (by omega)), h N _ (by omega)]
theorem itr_inv {α : Type} {f : Nat → α → α} (I : Nat → α → Prop) {a : α} (h0 : I 0 a) : ∀ N, (∀ k b, k < N → I k b → I (k + 1) (f k b)) → I N (itr f a N)
  | 0, _ => h0
  | N + 1, h => h N _ (by omega) (itr_inv I h0 N (fun k b hk => h k b (by omega)))
theorem G_up {α : Type} (N : Nat) (GG : Nat → α → Prop) (f : Nat → α → α) (I : Nat → α → Prop) (a : α) (h0 : I 0 a) (hi : ∀ k b, k < N → I k b → I (k + 1) (f k b)) (hs : ∀ k b, k < N → I k b → GG (k + 1) (f k b) → GG k b) (he : I N (itr f a N) → GG N (itr f a N)) : GG 0 a := by
  have hI : ∀ k, k ≤ N → I k (itr f a k) := fun k hk => itr_inv I h0 k (fun j b hj => hi j b (by omega))
  have h : ∀ d k, k + d = N → GG k (itr f a k) := by
    intro d
    induction d with
    | zero => intro k hk; have hk : k = N := by omega
              subst hk; exact he (hI k (by omega))
    | succ d ih => intro k hk; exact hs k _ (by omega) (hI k (by omega)) (ih (k + 1) (by omega))
  exact h N 0 (by omega)
theorem vw_120 (t : Nat → Nat → Int) (k : Nat) (x : Int) : vw 121 (upS t 120 k x) = vw 121 t := by
  funext j p
  unfold vw
  exact upS_1 (by omega)
theorem wr_s {k : Nat} {N : Nat} (h : k < N) (hN : N ≤ 2000000) : wr ((k : Int) + 1) = ((k + 1 : Nat) : Int) := by
  rw [wr_id (by omega) (by omega)]
  omega
theorem bnV_eq {C V : Nat → Nat → Int} {p : Nat} (h0 : C 0 p = V 0 p) (h1 : C 1 p = V 1 p) (h3 : C 3 p = V 3 p) : bnV C p = bnV V p := by
  funext c
  unfold bnV
  rw [h0, h1, h3]
theorem lsV_eq {C V : Nat → Nat → Int} {p : Nat} (h0 : C 0 p = V 0 p) (h1 : C 1 p = V 1 p) (h3 : C 3 p = V 3 p) (h4 : C 4 p = V 4 p) : lsV C p = lsV V p := by
  funext c
  unfold lsV
  rw [bnV_eq h0 h1 h3, h4]
theorem REL.np {s t : Nat → Nat → Int} (h : REL s t) : s 3 9 = t 120 0 ∧ s 3 10 = t 120 9 ∧ (0 ≤ t 120 0 ∧ t 120 0 ≤ 6) ∧ (0 ≤ t 120 9 ∧ t 120 9 ≤ 999) := ⟨h.n.1, h.n.2.1, h.n.2.2.1, h.n.2.2.2.1⟩
theorem REL.t {s t : Nat → Nat → Int} (h : REL s t) (p : Nat) (hp : (p : Int) < t 120 0) : (0 ≤ t 121 p ∧ t 121 p ≤ 5) ∧ (0 ≤ t 122 p ∧ t 122 p ≤ 9) ∧ (0 ≤ t 123 p ∧ t 123 p ≤ 999) ∧ (0 ≤ t 124 p ∧ t 124 p ≤ 99) ∧ (0 ≤ t 125 p ∧ t 125 p ≤ 99) ∧ (t 126 p = 0 ∨ t 126 p = 1) ∧ (0 ≤ t 127 p ∧ t 127 p ≤ 999) ∧ (t 128 p = -9 ∨ (0 ≤ t 128 p ∧ t 128 p < t 120 0 ∧ t 128 p ≠ (p : Int))) := h.n.2.2.2.2.1 p hp
theorem REL.s {s t : Nat → Nat → Int} (h : REL s t) (p : Nat) (hp : (p : Int) < t 120 0) : s 4 p = t 121 p ∧ s 5 p = t 122 p ∧ s 6 p = t 123 p ∧ s 7 p = t 124 p ∧ s 8 p = t 125 p ∧ s 9 p = t 126 p ∧ s 10 p = t 127 p ∧ ((t 128 p = -9 ∧ s 11 p = -1) ∨ (0 ≤ t 128 p ∧ s 11 p = t 128 p)) := h.n.2.2.2.2.2 p hp
theorem REL.rg {s t : Nat → Nat → Int} (h : REL s t) (p : Nat) (hp : (p : Int) < t 120 0) : rgP (vw 4 s) p ∧ rgP (vw 121 t) p ∧ (0 ≤ s 6 p ∧ s 6 p ≤ 2000) ∧ (0 ≤ vw 121 t 2 p ∧ vw 121 t 2 p ≤ 2000) ∧ (0 ≤ vw 4 s 4 p ∧ vw 4 s 4 p ≤ 99) ∧ (0 ≤ vw 121 t 4 p ∧ vw 121 t 4 p ≤ 99) := by
  obtain ⟨t0, t1, t2, t3, t4, t5, t6, t7⟩ := h.t p hp
  obtain ⟨s0, s1, s2, s3, s4, s5, s6, s7⟩ := h.s p hp
  refine ⟨⟨?_, ?_⟩, ⟨?_, ?_⟩, ?_, ?_, ?_, ?_⟩
  · show 0 ≤ s 5 p ∧ s 5 p ≤ 9
    omega
  · show 0 ≤ s 7 p ∧ s 7 p ≤ 200
    omega
  · exact t1
  · show 0 ≤ t 124 p ∧ t 124 p ≤ 200
    omega
  · omega
  · show 0 ≤ t 123 p ∧ t 123 p ≤ 2000
    omega
  · show 0 ≤ s 8 p ∧ s 8 p ≤ 99
    omega
  · exact t4
theorem REL.bn {s t : Nat → Nat → Int} (h : REL s t) (p : Nat) (hp : (p : Int) < t 120 0) : bnV (vw 4 s) p = bnV (vw 121 t) p :=
  have hs := h.s p hp
  bnV_eq hs.1 hs.2.1 hs.2.2.2.1
theorem REL.ls {s t : Nat → Nat → Int} (h : REL s t) (p : Nat) (hp : (p : Int) < t 120 0) : lsV (vw 4 s) p = lsV (vw 121 t) p :=
  have hs := h.s p hp
  lsV_eq hs.1 hs.2.1 hs.2.2.2.1 hs.2.2.2.2.1
theorem REL.wl {s t : Nat → Nat → Int} (h : REL s t) (p : Nat) (hp : (p : Int) < t 120 0) : wlt (s 4 p) (s 5 p) (s 6 p) (s 7 p) = wlW (vw 121 t) p := by
  obtain ⟨s0, s1, s2, s3, _⟩ := h.s p hp
  rw [s0, s1, s2, s3]
  rfl
theorem REL.wr {s t : Nat → Nat → Int} (h : REL s t) (p : Nat) (hp : (p : Int) < t 120 0) : 0 ≤ wlW (vw 121 t) p ∧ wlW (vw 121 t) p ≤ 9999 :=
  have g := h.rg p hp
  wlt_rg g.2.1.1 g.2.2.2.1 g.2.1.2
theorem REL.lr {s t : Nat → Nat → Int} (h : REL s t) (p : Nat) (hp : (p : Int) < t 120 0) (c : Int) (hc : 0 ≤ c ∧ c ≤ 2000) : 0 ≤ lsV (vw 121 t) p c ∧ lsV (vw 121 t) p c ≤ 99 :=
  have g := h.rg p hp
  lsV_rg g.2.1 hc g.2.2.2.2.2
theorem REL.br {s t : Nat → Nat → Int} (h : REL s t) (p : Nat) (hp : (p : Int) < t 120 0) (c : Int) (hc : 0 ≤ c ∧ c ≤ 2000) : 1 ≤ bnV (vw 121 t) p c ∧ bnV (vw 121 t) p c ≤ 2001 :=
  have g := h.rg p hp
  bnV_rg g.2.1 hc
theorem REL.up {s t : Nat → Nat → Int} (h : REL s t) : REL s (upS t 120 10 0) :=
  ⟨h.1, refs_up h.2.1 rfl, relN_fr h.n rfl rfl (fun _ _ _ => rfl) rfl rfl (fun a h1 h2 => by funext z; exact upS_1 (by omega)), relI_fr h.i rfl rfl rfl (fun _ _ _ => rfl) rfl rfl, relH_fr h.h rfl rfl (fun _ _ _ => rfl) rfl rfl, relL_fr h.l rfl rfl rfl rfl, relR_fr h.r rfl rfl rfl rfl, relF_fr h.f rfl rfl⟩
theorem post_same {n : Nat} {s t : Nat → Nat → Int} {x y : Int} (h : REL s t) (e : x = y) : Post n [(1, x)] (n, s) [(1, y)] (n, upS t 120 10 0) := ⟨_, rfl, by rw [e], h.up, rfl, rfl⟩
theorem post_same0 {n : Nat} {s t : Nat → Nat → Int} {x y : Int} (h : REL s t) (e : x = y) : Post n [(1, x)] (n, s) [(1, y)] (n, t) := ⟨_, rfl, by rw [e], h, rfl, rfl⟩

theorem sb_X6_lasts_0 (n : Nat) (s : Nat → Nat → Int) (Q : List Vl → Sto → Prop) (a0 : Int) (hR : refs s)
    (h : (a0 < 0 → Q [(1, (-1))] (n, upS s 119 1 (wr ((s 119 1) + 1)))) ∧ (0 ≤ a0 → (s 3 9 ≤ a0 → Q [(1, (-1))] (n, upS s 119 1 (wr ((s 119 1) + 1)))) ∧ (a0 < s 3 9 → (0 ≤ a0 ∧ a0 < 6) ∧ ((rgP (vw 4 s) a0.toNat) ∧ ((0 ≤ s 6 a0.toNat ∧ s 6 a0.toNat ≤ 2000) ∧ ((0 ≤ vw 4 s 4 a0.toNat ∧ vw 4 s 4 a0.toNat ≤ 99) ∧ (Q [(1, lsV (vw 4 s) a0.toNat (s 6 a0.toNat))] (n, s)))))))) :
    G 2 120 101 0 [(3, 2), (1, a0), (0, 0)] [] (n, s) Q := by
  refine G_go rfl rfl ?_
  refine G_go rfl rfl ?_
  refine G_call rfl rfl ?_
  refine G_go rfl rfl ?_
  refine G_rf rfl rfl (by decide) (hR 2 0 3 rfl) ?_
  refine G_go rfl rfl ?_
  refine G_call rfl rfl ?_
  refine G_go rfl rfl ?_
  refine G_lt rfl rfl (fun c1 => ?_) (fun c1 => ?_)
  · have h := h.1 c1
    refine G_go rfl rfl ?_
    refine G_ret rfl rfl ?_
    refine G_brT rfl rfl rfl ?_
    refine G_go rfl rfl ?_
    refine G_ret rfl rfl ?_
    refine G_go rfl rfl ?_
    refine G_go rfl rfl ?_
    refine G_brF rfl rfl rfl ?_
    refine G_go rfl rfl ?_
    refine G_go rfl rfl ?_
    refine G_call rfl rfl ?_
    refine G_go rfl rfl ?_
    refine G_go rfl rfl ?_
    refine G_go rfl rfl ?_
    refine G_go rfl rfl ?_
    refine G_brF rfl rfl rfl ?_
    refine G_go rfl rfl ?_
    refine G_go rfl rfl ?_
    refine G_rf rfl rfl (by decide) (hR 2 7 119 rfl) ?_
    refine G_go rfl rfl ?_
    refine G_brF rfl rfl rfl ?_
    refine G_go rfl rfl ?_
    refine G_rf rfl rfl (by decide) (hR 2 7 119 rfl) ?_
    refine G_go rfl rfl ?_
    refine G_go rfl rfl ?_
    refine G_ir (n := 7) rfl rfl (by decide) (by decide) (by decide) ?_
    refine G_go rfl rfl ?_
    refine G_go rfl rfl ?_
    refine G_iw (n := 7) rfl rfl (by decide) (by decide) (by decide) ?_
    have hR := refs_up (a := 119) (k := 1) (x := wr ((s 119 1) + 1)) hR rfl
    refine G_go rfl rfl ?_
    refine G_ret rfl rfl ?_
    refine G_go rfl rfl ?_
    exact G_ret rfl rfl h
  · have h := h.2 c1
    refine G_go rfl rfl ?_
    refine G_go rfl rfl ?_
    refine G_rd rfl rfl (by decide) ?_
    refine G_ge rfl rfl (fun c2 => ?_) (fun c2 => ?_)
    · have h := h.1 c2
      refine G_go rfl rfl ?_
      refine G_ret rfl rfl ?_
      refine G_brT rfl rfl rfl ?_
      refine G_go rfl rfl ?_
      refine G_ret rfl rfl ?_
      refine G_go rfl rfl ?_
      refine G_go rfl rfl ?_
      refine G_brF rfl rfl rfl ?_
      refine G_go rfl rfl ?_
      refine G_go rfl rfl ?_
      refine G_call rfl rfl ?_
      refine G_go rfl rfl ?_
      refine G_go rfl rfl ?_
      refine G_go rfl rfl ?_
      refine G_go rfl rfl ?_
      refine G_brF rfl rfl rfl ?_
      refine G_go rfl rfl ?_
      refine G_go rfl rfl ?_
      refine G_rf rfl rfl (by decide) (hR 2 7 119 rfl) ?_
      refine G_go rfl rfl ?_
      refine G_brF rfl rfl rfl ?_
      refine G_go rfl rfl ?_
      refine G_rf rfl rfl (by decide) (hR 2 7 119 rfl) ?_
      refine G_go rfl rfl ?_
      refine G_go rfl rfl ?_
      refine G_ir (n := 7) rfl rfl (by decide) (by decide) (by decide) ?_
      refine G_go rfl rfl ?_
      refine G_go rfl rfl ?_
      refine G_iw (n := 7) rfl rfl (by decide) (by decide) (by decide) ?_
      have hR := refs_up (a := 119) (k := 1) (x := wr ((s 119 1) + 1)) hR rfl
      refine G_go rfl rfl ?_
      refine G_ret rfl rfl ?_
      refine G_go rfl rfl ?_
      exact G_ret rfl rfl h
    · have h := h.2 c2
      refine G_go rfl rfl ?_
      refine G_go rfl rfl ?_
      refine G_ret rfl rfl ?_
      refine G_brF rfl rfl rfl ?_
      refine G_go rfl rfl ?_
      refine G_go rfl rfl ?_
      refine G_ret rfl rfl ?_
      refine G_go rfl rfl ?_
      refine G_go rfl rfl ?_
      refine G_brT rfl rfl rfl ?_
      refine G_go rfl rfl ?_
      refine G_rf rfl rfl (by decide) (hR 2 0 3 rfl) ?_
      refine G_go rfl rfl ?_
      refine G_call rfl rfl ?_
      refine G_go rfl rfl ?_
      refine G_go rfl rfl ?_
      refine G_go rfl rfl ?_
      refine G_rf rfl rfl (by decide) (hR 3 2 6 rfl) ?_
      refine G_go rfl rfl ?_
      obtain ⟨g3, h⟩ := h
      refine G_ir (n := 6) rfl rfl (by decide) (by decide) g3 ?_
      refine G_call rfl rfl ?_
      obtain ⟨g4, h⟩ := h
      obtain ⟨g5, h⟩ := h
      obtain ⟨g6, h⟩ := h
      refine c_X5_lastsHolding_3 n _ _ a0 (s 6 a0.toNat) hR g3 g4 g5 g6 ?_
      refine G_ret rfl rfl ?_
      exact G_ret rfl rfl h
theorem sb_X7_lasts_0 (n : Nat) (s : Nat → Nat → Int) (Q : List Vl → Sto → Prop) (a0 : Int) (hR : refs s)
    (h : (a0 < 0 → Q [(1, (-1))] (n, upS (upS s 120 10 0) 129 1 (wr ((s 129 1) + 1)))) ∧ (a0 ≥ 0 → (a0 > wr ((s 120 0) - 1) → Q [(1, (-1))] (n, upS (upS s 120 10 0) 129 1 (wr ((s 129 1) + 1)))) ∧ (a0 ≤ wr ((s 120 0) - 1) → (0 ≤ a0 ∧ a0 < 6) ∧ ((rgP (vw 121 (upS s 120 10 0)) a0.toNat) ∧ ((0 ≤ vw 121 (upS s 120 10 0) 2 a0.toNat ∧ vw 121 (upS s 120 10 0) 2 a0.toNat ≤ 2000) ∧ ((0 ≤ vw 121 (upS s 120 10 0) 4 a0.toNat ∧ vw 121 (upS s 120 10 0) 4 a0.toNat ≤ 99) ∧ (Q [(1, lsW (vw 121 (upS s 120 10 0)) a0.toNat)] (n, upS s 120 10 0)))))))) :
    G 120 140 193 0 [(3, 120), (1, a0)] [] (n, s) Q := by
  refine G_go rfl rfl ?_
  refine G_go rfl rfl ?_
  refine G_wr rfl rfl (by decide) ?_
  have hR := refs_up (a := 120) (k := 10) (x := 0) hR rfl
  refine G_go rfl rfl ?_
  refine G_go rfl rfl ?_
  refine G_call rfl rfl ?_
  refine G_go rfl rfl ?_
  refine G_go rfl rfl ?_
  refine G_go rfl rfl ?_
  refine G_go rfl rfl ?_
  refine G_rd rfl rfl (by decide) ?_
  refine G_go rfl rfl ?_
  refine G_go rfl rfl ?_
  refine G_go rfl rfl ?_
  refine G_call rfl rfl ?_
  refine G_go rfl rfl ?_
  refine G_go rfl rfl ?_
  refine G_go rfl rfl ?_
  refine G_lt rfl rfl (fun c1 => ?_) (fun c1 => ?_)
  · have c1 := xl_lt c1
    have h := h.1 c1
    refine G_go rfl rfl ?_
    refine G_ret rfl rfl ?_
    refine G_ret rfl rfl ?_
    refine G_brT rfl rfl rfl ?_
    refine G_go rfl rfl ?_
    refine G_go rfl rfl ?_
    refine G_call rfl rfl ?_
    refine G_go rfl rfl ?_
    refine G_rf rfl rfl (by decide) (hR 120 11 129 rfl) ?_
    refine G_go rfl rfl ?_
    refine G_go rfl rfl ?_
    refine G_go rfl rfl ?_
    refine G_ir (n := 7) rfl rfl (by decide) (by decide) (by decide) ?_
    refine G_go rfl rfl ?_
    refine G_go rfl rfl ?_
    refine G_iw (n := 7) rfl rfl (by decide) (by decide) (by decide) ?_
    have hR := refs_up (a := 129) (k := 1) (x := wr ((s 129 1) + 1)) hR rfl
    refine G_go rfl rfl ?_
    refine G_ret rfl rfl ?_
    exact G_ret rfl rfl h
  · have c1 := xl_ge c1
    have h := h.2 c1
    refine G_go rfl rfl ?_
    refine G_go rfl rfl ?_
    refine G_go rfl rfl ?_
    refine G_gt rfl rfl (fun c2 => ?_) (fun c2 => ?_)
    · have c2 := xl_gt c2
      have h := h.1 c2
      refine G_go rfl rfl ?_
      refine G_ret rfl rfl ?_
      refine G_ret rfl rfl ?_
      refine G_brT rfl rfl rfl ?_
      refine G_go rfl rfl ?_
      refine G_go rfl rfl ?_
      refine G_call rfl rfl ?_
      refine G_go rfl rfl ?_
      refine G_rf rfl rfl (by decide) (hR 120 11 129 rfl) ?_
      refine G_go rfl rfl ?_
      refine G_go rfl rfl ?_
      refine G_go rfl rfl ?_
      refine G_ir (n := 7) rfl rfl (by decide) (by decide) (by decide) ?_
      refine G_go rfl rfl ?_
      refine G_go rfl rfl ?_
      refine G_iw (n := 7) rfl rfl (by decide) (by decide) (by decide) ?_
      have hR := refs_up (a := 129) (k := 1) (x := wr ((s 129 1) + 1)) hR rfl
      refine G_go rfl rfl ?_
      refine G_ret rfl rfl ?_
      exact G_ret rfl rfl h
    · have c2 := xl_le c2
      have h := h.2 c2
      refine G_go rfl rfl ?_
      refine G_go rfl rfl ?_
      refine G_ret rfl rfl ?_
      refine G_ret rfl rfl ?_
      refine G_brF rfl rfl rfl ?_
      refine G_go rfl rfl ?_
      refine G_go rfl rfl ?_
      refine G_call rfl rfl ?_
      obtain ⟨g3, h⟩ := h
      obtain ⟨g4, h⟩ := h
      obtain ⟨g5, h⟩ := h
      obtain ⟨g6, h⟩ := h
      refine c_X7_lastsOf n _ _ a0 hR g3 g4 g5 g6 ?_
      refine G_go rfl rfl ?_
      exact G_ret rfl rfl h
theorem op_lasts (n : Nat) (s t : Nat → Nat → Int) (h : REL s t) (a0 : Int) : G 2 120 101 0 [(3, 2), (1, a0), (0, 0)] [] (n, s) (fun r s1 => G 120 140 193 0 [(3, 120), (1, a0)] [] (n, t) (Post n r s1)) := by
  obtain ⟨hn1, hn2, hn3, hn4⟩ := h.np
  have hw : wr (t 120 0 - 1) = t 120 0 - 1 := wr_id (by omega) (by omega)
  have h1 : ∀ z : Int, 0 ≤ z → z < t 120 0 → ∃ p : Nat, z = p ∧ (p : Int) < t 120 0 := fun z h1 h2 => ⟨z.toNat, by omega, by omega⟩
  refine sb_X6_lasts_0 n s _ a0 h.1 ?_
  repeat' first | with_reducible refine And.intro ?_ ?_ | intro _
  all_goals first | omega | skip
  all_goals try (obtain ⟨p, rfl, hp⟩ := h1 a0 (by omega) (by omega); obtain ⟨g1, g2, g3, g4, g5, g6⟩ := h.rg p hp; simp only [Int.toNat_natCast] at *)
  all_goals first | omega | assumption | skip
  all_goals refine sb_X7_lasts_0 n t _ _ h.2.1 ?_
  all_goals repeat' first | with_reducible refine And.intro ?_ ?_ | intro _
  all_goals first | omega | exact post_ref h _ (by decide) | skip
  all_goals simp only [vw_120, Int.toNat_natCast]
  all_goals first | omega | assumption | skip
  refine post_same h ?_
  rw [h.ls p hp]
  exact congrArg _ (h.s p hp).2.2.1
theorem wr_in (x : Int) : -2147483648 ≤ wr x ∧ wr x < 2147483648 := by
  unfold wr
  have h1 := Int.le_bmod (x := x) (m := 4294967296) (by decide)
  have h2 := Int.bmod_lt (x := x) (m := 4294967296) (by decide)
  omega
theorem xor_in (x y : Int) : -2147483648 ≤ xor_ x y ∧ xor_ x y < 2147483648 := by
  unfold xor_ iB
  have h1 := Int32.le_toInt (Int32.ofInt x ||| Int32.ofInt y)
  have h2 := Int32.toInt_lt (Int32.ofInt x ||| Int32.ofInt y)
  exact ⟨by simpa using h1, by simpa using h2⟩
theorem xor_0 {x : Int} (h : -2147483648 ≤ x ∧ x < 2147483648) : xor_ x 0 = x := by
  unfold xor_ iB
  have e : Int32.ofInt x ||| Int32.ofInt 0 = Int32.ofInt x := by
    rw [show Int32.ofInt 0 = 0 from rfl]
    exact Int32.or_zero
  show (Int32.ofInt x ||| Int32.ofInt 0).toInt = x
  rw [e]
  exact ofInt_id h.1 h.2
theorem wr_0 {x : Int} (h : -2147483648 ≤ x ∧ x < 2147483648) : wr (x + 0) = x := by
  rw [Int.add_zero]
  exact wr_id h.1 h.2
def inI (_ : Nat) (b : Int) : Prop := -2147483648 ≤ b ∧ b < 2147483648

theorem sb_X6_above_0 (n : Nat) (s : Nat → Nat → Int) (Q : List Vl → Sto → Prop) (a0 : Int) (hR : refs s)
    (h : (0 ≤ a0 → (a0 ≤ 999 → G 2 120 60 24 [(3, 2), (1, a0), (1, 0), (1, 0), (1, 0)] [] (n, s) Q) ∧ (999 < a0 → Q [(1, (-6))] (n, upS s 119 6 (wr ((s 119 6) + 1))))) ∧ (a0 < 0 → Q [(1, (-4))] (n, upS s 119 4 (wr ((s 119 4) + 1))))) :
    G 2 120 60 0 [(3, 2), (1, a0), (0, 0), (0, 0), (0, 0)] [] (n, s) Q := by
  refine G_go rfl rfl ?_
  refine G_go rfl rfl ?_
  refine G_go rfl rfl ?_
  refine G_call rfl rfl ?_
  refine G_go rfl rfl ?_
  refine G_go rfl rfl ?_
  refine G_ge rfl rfl (fun c1 => ?_) (fun c1 => ?_)
  · have h := h.1 c1
    refine G_go rfl rfl ?_
    refine G_go rfl rfl ?_
    refine G_le rfl rfl (fun c2 => ?_) (fun c2 => ?_)
    · have h := h.1 c2
      refine G_go rfl rfl ?_
      refine G_ret rfl rfl ?_
      refine G_go rfl rfl ?_
      refine G_go rfl rfl ?_
      refine G_brT rfl rfl rfl ?_
      refine G_go rfl rfl ?_
      refine G_go rfl rfl ?_
      refine G_go rfl rfl ?_
      refine G_go rfl rfl ?_
      exact h
    · have h := h.2 c2
      refine G_go rfl rfl ?_
      refine G_go rfl rfl ?_
      refine G_ret rfl rfl ?_
      refine G_go rfl rfl ?_
      refine G_go rfl rfl ?_
      refine G_brF rfl rfl rfl ?_
      refine G_go rfl rfl ?_
      refine G_go rfl rfl ?_
      refine G_call rfl rfl ?_
      refine G_go rfl rfl ?_
      refine G_go rfl rfl ?_
      refine G_go rfl rfl ?_
      refine G_go rfl rfl ?_
      refine G_brF rfl rfl rfl ?_
      refine G_go rfl rfl ?_
      refine G_go rfl rfl ?_
      refine G_rf rfl rfl (by decide) (hR 2 7 119 rfl) ?_
      refine G_go rfl rfl ?_
      refine G_brF rfl rfl rfl ?_
      refine G_go rfl rfl ?_
      refine G_rf rfl rfl (by decide) (hR 2 7 119 rfl) ?_
      refine G_go rfl rfl ?_
      refine G_go rfl rfl ?_
      refine G_ir (n := 7) rfl rfl (by decide) (by decide) (by decide) ?_
      refine G_go rfl rfl ?_
      refine G_go rfl rfl ?_
      refine G_iw (n := 7) rfl rfl (by decide) (by decide) (by decide) ?_
      have hR := refs_up (a := 119) (k := 6) (x := wr ((s 119 6) + 1)) hR rfl
      refine G_go rfl rfl ?_
      refine G_ret rfl rfl ?_
      exact G_ret rfl rfl h
  · have h := h.2 c1
    refine G_go rfl rfl ?_
    refine G_ret rfl rfl ?_
    refine G_go rfl rfl ?_
    refine G_go rfl rfl ?_
    refine G_brF rfl rfl rfl ?_
    refine G_go rfl rfl ?_
    refine G_go rfl rfl ?_
    refine G_call rfl rfl ?_
    refine G_go rfl rfl ?_
    refine G_go rfl rfl ?_
    refine G_go rfl rfl ?_
    refine G_go rfl rfl ?_
    refine G_brF rfl rfl rfl ?_
    refine G_go rfl rfl ?_
    refine G_go rfl rfl ?_
    refine G_rf rfl rfl (by decide) (hR 2 7 119 rfl) ?_
    refine G_go rfl rfl ?_
    refine G_brF rfl rfl rfl ?_
    refine G_go rfl rfl ?_
    refine G_rf rfl rfl (by decide) (hR 2 7 119 rfl) ?_
    refine G_go rfl rfl ?_
    refine G_go rfl rfl ?_
    refine G_ir (n := 7) rfl rfl (by decide) (by decide) (by decide) ?_
    refine G_go rfl rfl ?_
    refine G_go rfl rfl ?_
    refine G_iw (n := 7) rfl rfl (by decide) (by decide) (by decide) ?_
    have hR := refs_up (a := 119) (k := 4) (x := wr ((s 119 4) + 1)) hR rfl
    refine G_go rfl rfl ?_
    refine G_ret rfl rfl ?_
    exact G_ret rfl rfl h
theorem sb_X6_above_24 (n : Nat) (s : Nat → Nat → Int) (Q : List Vl → Sto → Prop) (x1 : Int) (x2 : Int) (x3 : Int) (x4 : Int) (hR : refs s)
    (h : (s 3 9 ≤ x4 → Q [(1, x3)] (n, s)) ∧ (x4 < s 3 9 → (0 ≤ x4 ∧ x4 < 6) ∧ ((0 ≤ s 5 x4.toNat ∧ s 5 x4.toNat ≤ 9) ∧ ((0 ≤ s 6 x4.toNat ∧ s 6 x4.toNat ≤ 2000) ∧ ((0 ≤ s 7 x4.toNat ∧ s 7 x4.toNat ≤ 200) ∧ ((wlt (s 4 x4.toNat) (s 5 x4.toNat) (s 6 x4.toNat) (s 7 x4.toNat) < x1 → G 2 120 60 24 [(3, 2), (1, x1), (1, x2), (1, x3), (1, wr (x4 + 1))] [] (n, s) Q) ∧ (x1 ≤ wlt (s 4 x4.toNat) (s 5 x4.toNat) (s 6 x4.toNat) (s 7 x4.toNat) → G 2 120 60 24 [(3, 2), (1, x1), (1, x2), (1, wr (x3 + 1)), (1, wr (x4 + 1))] [] (n, s) Q))))))) :
    G 2 120 60 24 [(3, 2), (1, x1), (1, x2), (1, x3), (1, x4)] [] (n, s) Q := by
  refine G_go rfl rfl ?_
  refine G_go rfl rfl ?_
  refine G_rf rfl rfl (by decide) (hR 2 0 3 rfl) ?_
  refine G_rd rfl rfl (by decide) ?_
  refine G_ge rfl rfl (fun c1 => ?_) (fun c1 => ?_)
  · have h := h.1 c1
    refine G_go rfl rfl ?_
    exact G_ret rfl rfl h
  · have h := h.2 c1
    refine G_go rfl rfl ?_
    refine G_rf rfl rfl (by decide) (hR 2 0 3 rfl) ?_
    refine G_go rfl rfl ?_
    refine G_call rfl rfl ?_
    refine G_go rfl rfl ?_
    refine G_rf rfl rfl (by decide) (hR 3 0 4 rfl) ?_
    refine G_go rfl rfl ?_
    obtain ⟨g2, h⟩ := h
    refine G_ir (n := 6) rfl rfl (by decide) (by decide) g2 ?_
    refine G_go rfl rfl ?_
    refine G_rf rfl rfl (by decide) (hR 3 1 5 rfl) ?_
    refine G_go rfl rfl ?_
    refine G_ir (n := 6) rfl rfl (by decide) (by decide) g2 ?_
    refine G_go rfl rfl ?_
    refine G_rf rfl rfl (by decide) (hR 3 2 6 rfl) ?_
    refine G_go rfl rfl ?_
    refine G_ir (n := 6) rfl rfl (by decide) (by decide) g2 ?_
    refine G_go rfl rfl ?_
    refine G_rf rfl rfl (by decide) (hR 3 3 7 rfl) ?_
    refine G_go rfl rfl ?_
    refine G_ir (n := 6) rfl rfl (by decide) (by decide) g2 ?_
    refine G_call rfl rfl ?_
    obtain ⟨g3, h⟩ := h
    obtain ⟨g4, h⟩ := h
    obtain ⟨g5, h⟩ := h
    refine c_X1_wealth n _ _ (s 4 x4.toNat) (s 5 x4.toNat) (s 6 x4.toNat) (s 7 x4.toNat) hR g3 g4 g5 ?_
    refine G_ret rfl rfl ?_
    refine G_go rfl rfl ?_
    refine G_lt rfl rfl (fun c6 => ?_) (fun c6 => ?_)
    · have h := h.1 c6
      refine G_go rfl rfl ?_
      refine G_go rfl rfl ?_
      exact h
    · have h := h.2 c6
      refine G_go rfl rfl ?_
      refine G_go rfl rfl ?_
      refine G_go rfl rfl ?_
      exact h
theorem sb_X7_above_0 (n : Nat) (s : Nat → Nat → Int) (Q : List Vl → Sto → Prop) (a0 : Int) (hR : refs s)
    (h : (0 ≤ a0 → (a0 ≤ 999 → G 120 140 137 33 [(3, 120), (1, a0), (1, 0), (1, 0)] [] (n, upS s 120 10 0) Q) ∧ (999 < a0 → Q [(1, (-6))] (n, upS (upS s 120 10 0) 129 6 (wr ((s 129 6) + 1))))) ∧ (a0 < 0 → Q [(1, (-4))] (n, upS (upS s 120 10 0) 129 4 (wr ((s 129 4) + 1))))) :
    G 120 140 137 0 [(3, 120), (1, a0), (0, 0), (0, 0)] [] (n, s) Q := by
  refine G_go rfl rfl ?_
  refine G_go rfl rfl ?_
  refine G_wr rfl rfl (by decide) ?_
  have hR := refs_up (a := 120) (k := 10) (x := 0) hR rfl
  refine G_go rfl rfl ?_
  refine G_go rfl rfl ?_
  refine G_go rfl rfl ?_
  refine G_call rfl rfl ?_
  refine G_go rfl rfl ?_
  refine G_go rfl rfl ?_
  refine G_ge rfl rfl (fun c1 => ?_) (fun c1 => ?_)
  · have h := h.1 c1
    refine G_go rfl rfl ?_
    refine G_go rfl rfl ?_
    refine G_le rfl rfl (fun c2 => ?_) (fun c2 => ?_)
    · have h := h.1 c2
      refine G_go rfl rfl ?_
      refine G_ret rfl rfl ?_
      refine G_brT rfl rfl rfl ?_
      refine G_go rfl rfl ?_
      refine G_go rfl rfl ?_
      refine G_go rfl rfl ?_
      refine G_go rfl rfl ?_
      exact h
    · have h := h.2 c2
      refine G_go rfl rfl ?_
      refine G_go rfl rfl ?_
      refine G_ret rfl rfl ?_
      refine G_brF rfl rfl rfl ?_
      refine G_go rfl rfl ?_
      refine G_go rfl rfl ?_
      refine G_go rfl rfl ?_
      refine G_go rfl rfl ?_
      refine G_call rfl rfl ?_
      refine G_go rfl rfl ?_
      refine G_go rfl rfl ?_
      refine G_ge rfl rfl (fun _ => ?_) (fun hc => absurd (show a0 < 0 from hc) (by omega))
      refine G_go rfl rfl ?_
      refine G_go rfl rfl ?_
      refine G_le rfl rfl (fun hc => absurd (show a0 ≤ 999 from hc) (by omega)) (fun _ => ?_)
      refine G_go rfl rfl ?_
      refine G_go rfl rfl ?_
      refine G_ret rfl rfl ?_
      refine G_call rfl rfl ?_
      refine G_go rfl rfl ?_
      refine G_rf rfl rfl (by decide) (hR 120 11 129 rfl) ?_
      refine G_go rfl rfl ?_
      refine G_go rfl rfl ?_
      refine G_go rfl rfl ?_
      refine G_ir (n := 7) rfl rfl (by decide) (by decide) (by decide) ?_
      refine G_go rfl rfl ?_
      refine G_go rfl rfl ?_
      refine G_iw (n := 7) rfl rfl (by decide) (by decide) (by decide) ?_
      have hR := refs_up (a := 129) (k := 6) (x := wr ((s 129 6) + 1)) hR rfl
      refine G_go rfl rfl ?_
      refine G_ret rfl rfl ?_
      exact G_ret rfl rfl h
  · have h := h.2 c1
    refine G_go rfl rfl ?_
    refine G_go rfl rfl ?_
    refine G_ret rfl rfl ?_
    refine G_brF rfl rfl rfl ?_
    refine G_go rfl rfl ?_
    refine G_go rfl rfl ?_
    refine G_go rfl rfl ?_
    refine G_go rfl rfl ?_
    refine G_call rfl rfl ?_
    refine G_go rfl rfl ?_
    refine G_go rfl rfl ?_
    refine G_ge rfl rfl (fun hc => absurd (show 0 ≤ a0 from hc) (by omega)) (fun _ => ?_)
    refine G_go rfl rfl ?_
    refine G_go rfl rfl ?_
    refine G_ret rfl rfl ?_
    refine G_call rfl rfl ?_
    refine G_go rfl rfl ?_
    refine G_rf rfl rfl (by decide) (hR 120 11 129 rfl) ?_
    refine G_go rfl rfl ?_
    refine G_go rfl rfl ?_
    refine G_go rfl rfl ?_
    refine G_ir (n := 7) rfl rfl (by decide) (by decide) (by decide) ?_
    refine G_go rfl rfl ?_
    refine G_go rfl rfl ?_
    refine G_iw (n := 7) rfl rfl (by decide) (by decide) (by decide) ?_
    have hR := refs_up (a := 129) (k := 4) (x := wr ((s 129 4) + 1)) hR rfl
    refine G_go rfl rfl ?_
    refine G_ret rfl rfl ?_
    exact G_ret rfl rfl h
theorem sb_X7_above_33 (n : Nat) (s : Nat → Nat → Int) (Q : List Vl → Sto → Prop) (x1 : Int) (x2 : Int) (x3 : Int) (hR : refs s)
    (h : (s 120 0 ≤ x3 → Q [(1, x2)] (n, s)) ∧ (x3 < s 120 0 → (0 ≤ x3 ∧ x3 < 6) ∧ ((rgP (vw 121 s) x3.toNat) ∧ ((0 ≤ vw 121 s 2 x3.toNat ∧ vw 121 s 2 x3.toNat ≤ 2000) ∧ ((wlW (vw 121 s) x3.toNat < x1 → G 120 140 137 33 [(3, 120), (1, x1), (1, wr (x2 + 0)), (1, wr (x3 + 1))] [] (n, s) Q) ∧ (x1 ≤ wlW (vw 121 s) x3.toNat → G 120 140 137 33 [(3, 120), (1, x1), (1, wr (x2 + 1)), (1, wr (x3 + 1))] [] (n, s) Q)))))) :
    G 120 140 137 33 [(3, 120), (1, x1), (1, x2), (1, x3)] [] (n, s) Q := by
  refine G_go rfl rfl ?_
  refine G_go rfl rfl ?_
  refine G_rd rfl rfl (by decide) ?_
  refine G_ge rfl rfl (fun c1 => ?_) (fun c1 => ?_)
  · have h := h.1 c1
    refine G_go rfl rfl ?_
    exact G_ret rfl rfl h
  · have h := h.2 c1
    refine G_go rfl rfl ?_
    refine G_go rfl rfl ?_
    refine G_go rfl rfl ?_
    refine G_call rfl rfl ?_
    obtain ⟨g2, h⟩ := h
    obtain ⟨g3, h⟩ := h
    obtain ⟨g4, h⟩ := h
    refine c_X7_wealthOf n _ _ x3 hR g2 g3 g4 ?_
    refine G_go rfl rfl ?_
    refine G_lt rfl rfl (fun c5 => ?_) (fun c5 => ?_)
    · have h := h.1 c5
      refine G_go rfl rfl ?_
      refine G_go rfl rfl ?_
      refine G_go rfl rfl ?_
      refine G_go rfl rfl ?_
      refine G_go rfl rfl ?_
      exact h
    · have h := h.2 c5
      refine G_go rfl rfl ?_
      refine G_go rfl rfl ?_
      refine G_go rfl rfl ?_
      refine G_go rfl rfl ?_
      refine G_go rfl rfl ?_
      refine G_go rfl rfl ?_
      exact h
theorem sb_X6_trusted_0 (n : Nat) (s : Nat → Nat → Int) (Q : List Vl → Sto → Prop) (a0 : Int) (hR : refs s)
    (h : (a0 < 0 → Q [(1, (-1))] (n, upS s 119 1 (wr ((s 119 1) + 1)))) ∧ (0 ≤ a0 → (s 3 9 ≤ a0 → Q [(1, (-1))] (n, upS s 119 1 (wr ((s 119 1) + 1)))) ∧ (a0 < s 3 9 → G 2 120 129 21 [(3, 2), (1, a0), (1, 0), (1, 0), (1, 0)] [] (n, s) Q))) :
    G 2 120 129 0 [(3, 2), (1, a0), (0, 0), (0, 0), (0, 0)] [] (n, s) Q := by
  refine G_go rfl rfl ?_
  refine G_go rfl rfl ?_
  refine G_call rfl rfl ?_
  refine G_go rfl rfl ?_
  refine G_rf rfl rfl (by decide) (hR 2 0 3 rfl) ?_
  refine G_go rfl rfl ?_
  refine G_call rfl rfl ?_
  refine G_go rfl rfl ?_
  refine G_lt rfl rfl (fun c1 => ?_) (fun c1 => ?_)
  · have h := h.1 c1
    refine G_go rfl rfl ?_
    refine G_ret rfl rfl ?_
    refine G_brT rfl rfl rfl ?_
    refine G_go rfl rfl ?_
    refine G_ret rfl rfl ?_
    refine G_go rfl rfl ?_
    refine G_go rfl rfl ?_
    refine G_brF rfl rfl rfl ?_
    refine G_go rfl rfl ?_
    refine G_go rfl rfl ?_
    refine G_call rfl rfl ?_
    refine G_go rfl rfl ?_
    refine G_go rfl rfl ?_
    refine G_go rfl rfl ?_
    refine G_go rfl rfl ?_
    refine G_brF rfl rfl rfl ?_
    refine G_go rfl rfl ?_
    refine G_go rfl rfl ?_
    refine G_rf rfl rfl (by decide) (hR 2 7 119 rfl) ?_
    refine G_go rfl rfl ?_
    refine G_brF rfl rfl rfl ?_
    refine G_go rfl rfl ?_
    refine G_rf rfl rfl (by decide) (hR 2 7 119 rfl) ?_
    refine G_go rfl rfl ?_
    refine G_go rfl rfl ?_
    refine G_ir (n := 7) rfl rfl (by decide) (by decide) (by decide) ?_
    refine G_go rfl rfl ?_
    refine G_go rfl rfl ?_
    refine G_iw (n := 7) rfl rfl (by decide) (by decide) (by decide) ?_
    have hR := refs_up (a := 119) (k := 1) (x := wr ((s 119 1) + 1)) hR rfl
    refine G_go rfl rfl ?_
    refine G_ret rfl rfl ?_
    exact G_ret rfl rfl h
  · have h := h.2 c1
    refine G_go rfl rfl ?_
    refine G_go rfl rfl ?_
    refine G_rd rfl rfl (by decide) ?_
    refine G_ge rfl rfl (fun c2 => ?_) (fun c2 => ?_)
    · have h := h.1 c2
      refine G_go rfl rfl ?_
      refine G_ret rfl rfl ?_
      refine G_brT rfl rfl rfl ?_
      refine G_go rfl rfl ?_
      refine G_ret rfl rfl ?_
      refine G_go rfl rfl ?_
      refine G_go rfl rfl ?_
      refine G_brF rfl rfl rfl ?_
      refine G_go rfl rfl ?_
      refine G_go rfl rfl ?_
      refine G_call rfl rfl ?_
      refine G_go rfl rfl ?_
      refine G_go rfl rfl ?_
      refine G_go rfl rfl ?_
      refine G_go rfl rfl ?_
      refine G_brF rfl rfl rfl ?_
      refine G_go rfl rfl ?_
      refine G_go rfl rfl ?_
      refine G_rf rfl rfl (by decide) (hR 2 7 119 rfl) ?_
      refine G_go rfl rfl ?_
      refine G_brF rfl rfl rfl ?_
      refine G_go rfl rfl ?_
      refine G_rf rfl rfl (by decide) (hR 2 7 119 rfl) ?_
      refine G_go rfl rfl ?_
      refine G_go rfl rfl ?_
      refine G_ir (n := 7) rfl rfl (by decide) (by decide) (by decide) ?_
      refine G_go rfl rfl ?_
      refine G_go rfl rfl ?_
      refine G_iw (n := 7) rfl rfl (by decide) (by decide) (by decide) ?_
      have hR := refs_up (a := 119) (k := 1) (x := wr ((s 119 1) + 1)) hR rfl
      refine G_go rfl rfl ?_
      refine G_ret rfl rfl ?_
      exact G_ret rfl rfl h
    · have h := h.2 c2
      refine G_go rfl rfl ?_
      refine G_go rfl rfl ?_
      refine G_ret rfl rfl ?_
      refine G_brF rfl rfl rfl ?_
      refine G_go rfl rfl ?_
      refine G_go rfl rfl ?_
      refine G_ret rfl rfl ?_
      refine G_go rfl rfl ?_
      refine G_go rfl rfl ?_
      refine G_brT rfl rfl rfl ?_
      refine G_go rfl rfl ?_
      refine G_go rfl rfl ?_
      refine G_go rfl rfl ?_
      refine G_go rfl rfl ?_
      exact h
theorem sb_X6_trusted_21 (n : Nat) (s : Nat → Nat → Int) (Q : List Vl → Sto → Prop) (x1 : Int) (x2 : Int) (x3 : Int) (x4 : Int) (hR : refs s)
    (h : (s 3 9 ≤ x4 → Q [(1, x3)] (n, s)) ∧ (x4 < s 3 9 → (0 ≤ x4 ∧ x4 < 6) ∧ ((s 11 x4.toNat ≠ x1 → G 2 120 129 21 [(3, 2), (1, x1), (1, x2), (1, x3), (1, wr (x4 + 1))] [] (n, s) Q) ∧ (s 11 x4.toNat = x1 → G 2 120 129 21 [(3, 2), (1, x1), (1, x2), (1, wr (x3 + 1)), (1, wr (x4 + 1))] [] (n, s) Q)))) :
    G 2 120 129 21 [(3, 2), (1, x1), (1, x2), (1, x3), (1, x4)] [] (n, s) Q := by
  refine G_go rfl rfl ?_
  refine G_go rfl rfl ?_
  refine G_rf rfl rfl (by decide) (hR 2 0 3 rfl) ?_
  refine G_rd rfl rfl (by decide) ?_
  refine G_ge rfl rfl (fun c1 => ?_) (fun c1 => ?_)
  · have h := h.1 c1
    refine G_go rfl rfl ?_
    exact G_ret rfl rfl h
  · have h := h.2 c1
    refine G_go rfl rfl ?_
    refine G_rf rfl rfl (by decide) (hR 2 0 3 rfl) ?_
    refine G_rf rfl rfl (by decide) (hR 3 7 11 rfl) ?_
    refine G_go rfl rfl ?_
    obtain ⟨g2, h⟩ := h
    refine G_ir (n := 6) rfl rfl (by decide) (by decide) g2 ?_
    refine G_go rfl rfl ?_
    refine G_ne rfl rfl (fun c3 => ?_) (fun c3 => ?_)
    · have h := h.1 c3
      refine G_go rfl rfl ?_
      refine G_go rfl rfl ?_
      exact h
    · have h := h.2 c3
      refine G_go rfl rfl ?_
      refine G_go rfl rfl ?_
      refine G_go rfl rfl ?_
      exact h
theorem sb_X7_trusted_0 (n : Nat) (s : Nat → Nat → Int) (Q : List Vl → Sto → Prop) (a0 : Int) (hR : refs s)
    (h : (a0 < 0 → Q [(1, (-1))] (n, upS (upS s 120 10 0) 129 1 (wr ((s 129 1) + 1)))) ∧ (a0 ≥ 0 → (a0 > wr ((s 120 0) - 1) → Q [(1, (-1))] (n, upS (upS s 120 10 0) 129 1 (wr ((s 129 1) + 1)))) ∧ (a0 ≤ wr ((s 120 0) - 1) → G 120 140 220 23 [(3, 120), (1, a0), (1, 0), (1, 0)] [] (n, upS s 120 10 0) Q))) :
    G 120 140 220 0 [(3, 120), (1, a0), (0, 0), (0, 0)] [] (n, s) Q := by
  refine G_go rfl rfl ?_
  refine G_go rfl rfl ?_
  refine G_wr rfl rfl (by decide) ?_
  have hR := refs_up (a := 120) (k := 10) (x := 0) hR rfl
  refine G_go rfl rfl ?_
  refine G_go rfl rfl ?_
  refine G_call rfl rfl ?_
  refine G_go rfl rfl ?_
  refine G_go rfl rfl ?_
  refine G_go rfl rfl ?_
  refine G_go rfl rfl ?_
  refine G_rd rfl rfl (by decide) ?_
  refine G_go rfl rfl ?_
  refine G_go rfl rfl ?_
  refine G_go rfl rfl ?_
  refine G_call rfl rfl ?_
  refine G_go rfl rfl ?_
  refine G_go rfl rfl ?_
  refine G_go rfl rfl ?_
  refine G_lt rfl rfl (fun c1 => ?_) (fun c1 => ?_)
  · have c1 := xl_lt c1
    have h := h.1 c1
    refine G_go rfl rfl ?_
    refine G_ret rfl rfl ?_
    refine G_ret rfl rfl ?_
    refine G_brF rfl rfl rfl ?_
    refine G_go rfl rfl ?_
    refine G_go rfl rfl ?_
    refine G_call rfl rfl ?_
    refine G_go rfl rfl ?_
    refine G_rf rfl rfl (by decide) (hR 120 11 129 rfl) ?_
    refine G_go rfl rfl ?_
    refine G_go rfl rfl ?_
    refine G_go rfl rfl ?_
    refine G_ir (n := 7) rfl rfl (by decide) (by decide) (by decide) ?_
    refine G_go rfl rfl ?_
    refine G_go rfl rfl ?_
    refine G_iw (n := 7) rfl rfl (by decide) (by decide) (by decide) ?_
    have hR := refs_up (a := 129) (k := 1) (x := wr ((s 129 1) + 1)) hR rfl
    refine G_go rfl rfl ?_
    refine G_ret rfl rfl ?_
    exact G_ret rfl rfl h
  · have c1 := xl_ge c1
    have h := h.2 c1
    refine G_go rfl rfl ?_
    refine G_go rfl rfl ?_
    refine G_go rfl rfl ?_
    refine G_gt rfl rfl (fun c2 => ?_) (fun c2 => ?_)
    · have c2 := xl_gt c2
      have h := h.1 c2
      refine G_go rfl rfl ?_
      refine G_ret rfl rfl ?_
      refine G_ret rfl rfl ?_
      refine G_brF rfl rfl rfl ?_
      refine G_go rfl rfl ?_
      refine G_go rfl rfl ?_
      refine G_call rfl rfl ?_
      refine G_go rfl rfl ?_
      refine G_rf rfl rfl (by decide) (hR 120 11 129 rfl) ?_
      refine G_go rfl rfl ?_
      refine G_go rfl rfl ?_
      refine G_go rfl rfl ?_
      refine G_ir (n := 7) rfl rfl (by decide) (by decide) (by decide) ?_
      refine G_go rfl rfl ?_
      refine G_go rfl rfl ?_
      refine G_iw (n := 7) rfl rfl (by decide) (by decide) (by decide) ?_
      have hR := refs_up (a := 129) (k := 1) (x := wr ((s 129 1) + 1)) hR rfl
      refine G_go rfl rfl ?_
      refine G_ret rfl rfl ?_
      exact G_ret rfl rfl h
    · have c2 := xl_le c2
      have h := h.2 c2
      refine G_go rfl rfl ?_
      refine G_go rfl rfl ?_
      refine G_ret rfl rfl ?_
      refine G_ret rfl rfl ?_
      refine G_brT rfl rfl rfl ?_
      refine G_go rfl rfl ?_
      refine G_go rfl rfl ?_
      refine G_go rfl rfl ?_
      refine G_go rfl rfl ?_
      exact h
theorem sb_X7_trusted_23 (n : Nat) (s : Nat → Nat → Int) (Q : List Vl → Sto → Prop) (x1 : Int) (x2 : Int) (x3 : Int) (hR : refs s)
    (h : (s 120 0 ≤ x3 → Q [(1, x2)] (n, s)) ∧ (x3 < s 120 0 → (0 ≤ x3 ∧ x3 < 6) ∧ ((s 128 x3.toNat ≠ x1 → G 120 140 220 23 [(3, 120), (1, x1), (1, wr (x2 + 0)), (1, wr (x3 + 1))] [] (n, s) Q) ∧ (s 128 x3.toNat = x1 → G 120 140 220 23 [(3, 120), (1, x1), (1, wr (x2 + 1)), (1, wr (x3 + 1))] [] (n, s) Q)))) :
    G 120 140 220 23 [(3, 120), (1, x1), (1, x2), (1, x3)] [] (n, s) Q := by
  refine G_go rfl rfl ?_
  refine G_go rfl rfl ?_
  refine G_rd rfl rfl (by decide) ?_
  refine G_ge rfl rfl (fun c1 => ?_) (fun c1 => ?_)
  · have h := h.1 c1
    refine G_go rfl rfl ?_
    exact G_ret rfl rfl h
  · have h := h.2 c1
    refine G_go rfl rfl ?_
    refine G_go rfl rfl ?_
    refine G_rf rfl rfl (by decide) (hR 120 8 128 rfl) ?_
    refine G_go rfl rfl ?_
    obtain ⟨g2, h⟩ := h
    refine G_ir (n := 6) rfl rfl (by decide) (by decide) g2 ?_
    refine G_go rfl rfl ?_
    refine G_ne rfl rfl (fun c3 => ?_) (fun c3 => ?_)
    · have h := h.1 c3
      refine G_go rfl rfl ?_
      refine G_go rfl rfl ?_
      refine G_go rfl rfl ?_
      refine G_go rfl rfl ?_
      refine G_go rfl rfl ?_
      exact h
    · have h := h.2 c3
      refine G_go rfl rfl ?_
      refine G_go rfl rfl ?_
      refine G_go rfl rfl ?_
      refine G_go rfl rfl ?_
      refine G_go rfl rfl ?_
      refine G_go rfl rfl ?_
      exact h
theorem sb_X6_unlit_0 (n : Nat) (s : Nat → Nat → Int) (Q : List Vl → Sto → Prop) (hR : refs s)
    (h : G 2 120 131 4 [(3, 2), (1, 0), (1, 0)] [] (n, s) Q) :
    G 2 120 131 0 [(3, 2), (0, 0), (0, 0)] [] (n, s) Q := by
  refine G_go rfl rfl ?_
  refine G_go rfl rfl ?_
  refine G_go rfl rfl ?_
  refine G_go rfl rfl ?_
  exact h
theorem sb_X6_unlit_4 (n : Nat) (s : Nat → Nat → Int) (Q : List Vl → Sto → Prop) (x1 : Int) (x2 : Int) (hR : refs s)
    (h : (s 3 9 ≤ x2 → Q [(1, x1)] (n, s)) ∧ (x2 < s 3 9 → (0 ≤ x2 ∧ x2 < 6) ∧ ((s 8 x2.toNat ≤ 0 → G 2 120 131 4 [(3, 2), (1, x1), (1, wr (x2 + 1))] [] (n, s) Q) ∧ (0 < s 8 x2.toNat → (s 9 x2.toNat ≠ 0 → G 2 120 131 4 [(3, 2), (1, x1), (1, wr (x2 + 1))] [] (n, s) Q) ∧ (s 9 x2.toNat = 0 → G 2 120 131 4 [(3, 2), (1, xor_ x1 (xshl 1 x2)), (1, wr (x2 + 1))] [] (n, s) Q))))) :
    G 2 120 131 4 [(3, 2), (1, x1), (1, x2)] [] (n, s) Q := by
  refine G_go rfl rfl ?_
  refine G_go rfl rfl ?_
  refine G_rf rfl rfl (by decide) (hR 2 0 3 rfl) ?_
  refine G_rd rfl rfl (by decide) ?_
  refine G_ge rfl rfl (fun c1 => ?_) (fun c1 => ?_)
  · have h := h.1 c1
    refine G_go rfl rfl ?_
    exact G_ret rfl rfl h
  · have h := h.2 c1
    refine G_go rfl rfl ?_
    refine G_rf rfl rfl (by decide) (hR 2 0 3 rfl) ?_
    refine G_rf rfl rfl (by decide) (hR 3 4 8 rfl) ?_
    refine G_go rfl rfl ?_
    obtain ⟨g2, h⟩ := h
    refine G_ir (n := 6) rfl rfl (by decide) (by decide) g2 ?_
    refine G_le rfl rfl (fun c3 => ?_) (fun c3 => ?_)
    · have h := h.1 c3
      refine G_go rfl rfl ?_
      refine G_go rfl rfl ?_
      exact h
    · have h := h.2 c3
      refine G_go rfl rfl ?_
      refine G_rf rfl rfl (by decide) (hR 2 0 3 rfl) ?_
      refine G_rf rfl rfl (by decide) (hR 3 5 9 rfl) ?_
      refine G_go rfl rfl ?_
      refine G_zr (n := 6) rfl rfl (by decide) (by decide) g2 ?_
      refine G_ne rfl rfl (fun c4 => ?_) (fun c4 => ?_)
      · have h := h.1 c4
        refine G_go rfl rfl ?_
        refine G_go rfl rfl ?_
        exact h
      · have h := h.2 c4
        refine G_go rfl rfl ?_
        refine G_go rfl rfl ?_
        refine G_go rfl rfl ?_
        refine G_go rfl rfl ?_
        refine G_go rfl rfl ?_
        refine G_go rfl rfl ?_
        refine G_go rfl rfl ?_
        refine G_go rfl rfl ?_
        exact h
theorem sb_X7_unlit_0 (n : Nat) (s : Nat → Nat → Int) (Q : List Vl → Sto → Prop) (hR : refs s)
    (h : G 120 140 222 9 [(3, 120), (1, 0), (1, 0)] [] (n, upS s 120 10 0) Q) :
    G 120 140 222 0 [(3, 120), (0, 0), (0, 0)] [] (n, s) Q := by
  refine G_go rfl rfl ?_
  refine G_go rfl rfl ?_
  refine G_wr rfl rfl (by decide) ?_
  have hR := refs_up (a := 120) (k := 10) (x := 0) hR rfl
  refine G_go rfl rfl ?_
  refine G_go rfl rfl ?_
  refine G_go rfl rfl ?_
  refine G_go rfl rfl ?_
  exact h
theorem sb_X7_unlit_9 (n : Nat) (s : Nat → Nat → Int) (Q : List Vl → Sto → Prop) (x1 : Int) (x2 : Int) (hR : refs s)
    (h : (s 120 0 ≤ x2 → Q [(1, x1)] (n, s)) ∧ (x2 < s 120 0 → (0 ≤ x2 ∧ x2 < 6) ∧ ((s 125 x2.toNat ≤ 0 → G 120 140 222 9 [(3, 120), (1, xor_ x1 0), (1, wr (x2 + 1))] [] (n, s) Q) ∧ (0 < s 125 x2.toNat → (s 126 x2.toNat ≠ 0 → G 120 140 222 9 [(3, 120), (1, xor_ x1 0), (1, wr (x2 + 1))] [] (n, s) Q) ∧ (s 126 x2.toNat = 0 → G 120 140 222 9 [(3, 120), (1, xor_ x1 (xshl 1 x2)), (1, wr (x2 + 1))] [] (n, s) Q))))) :
    G 120 140 222 9 [(3, 120), (1, x1), (1, x2)] [] (n, s) Q := by
  refine G_go rfl rfl ?_
  refine G_go rfl rfl ?_
  refine G_rd rfl rfl (by decide) ?_
  refine G_ge rfl rfl (fun c1 => ?_) (fun c1 => ?_)
  · have h := h.1 c1
    refine G_go rfl rfl ?_
    exact G_ret rfl rfl h
  · have h := h.2 c1
    refine G_go rfl rfl ?_
    refine G_go rfl rfl ?_
    refine G_rf rfl rfl (by decide) (hR 120 5 125 rfl) ?_
    refine G_go rfl rfl ?_
    obtain ⟨g2, h⟩ := h
    refine G_ir (n := 6) rfl rfl (by decide) (by decide) g2 ?_
    refine G_le rfl rfl (fun c3 => ?_) (fun c3 => ?_)
    · have h := h.1 c3
      refine G_go rfl rfl ?_
      refine G_go rfl rfl ?_
      refine G_go rfl rfl ?_
      refine G_go rfl rfl ?_
      refine G_go rfl rfl ?_
      exact h
    · have h := h.2 c3
      refine G_go rfl rfl ?_
      refine G_rf rfl rfl (by decide) (hR 120 6 126 rfl) ?_
      refine G_go rfl rfl ?_
      refine G_ir (n := 6) rfl rfl (by decide) (by decide) g2 ?_
      refine G_ne rfl rfl (fun c4 => ?_) (fun c4 => ?_)
      · have h := h.1 c4
        refine G_go rfl rfl ?_
        refine G_go rfl rfl ?_
        refine G_go rfl rfl ?_
        refine G_go rfl rfl ?_
        refine G_go rfl rfl ?_
        exact h
      · have h := h.2 c4
        refine G_go rfl rfl ?_
        refine G_go rfl rfl ?_
        refine G_go rfl rfl ?_
        refine G_go rfl rfl ?_
        refine G_go rfl rfl ?_
        refine G_go rfl rfl ?_
        refine G_go rfl rfl ?_
        refine G_go rfl rfl ?_
        exact h
theorem sb_X6_apart_0 (n : Nat) (s : Nat → Nat → Int) (Q : List Vl → Sto → Prop) (hR : refs s)
    (h : (s 3 9 ≠ 0 → (0 ≤ s 5 0 ∧ s 5 0 ≤ 9) ∧ ((0 ≤ s 6 0 ∧ s 6 0 ≤ 2000) ∧ ((0 ≤ s 7 0 ∧ s 7 0 ≤ 200) ∧ (G 2 120 64 25 [(3, 2), (1, wlt (s 4 0) (s 5 0) (s 6 0) (s 7 0)), (1, wlt (s 4 0) (s 5 0) (s 6 0) (s 7 0)), (1, 1)] [] (n, s) Q)))) ∧ (s 3 9 = 0 → Q [(1, 0)] (n, s))) :
    G 2 120 64 0 [(3, 2), (0, 0), (0, 0), (0, 0)] [] (n, s) Q := by
  refine G_go rfl rfl ?_
  refine G_rf rfl rfl (by decide) (hR 2 0 3 rfl) ?_
  refine G_rd rfl rfl (by decide) ?_
  refine G_ne rfl rfl (fun c1 => ?_) (fun c1 => ?_)
  · have h := h.1 c1
    refine G_go rfl rfl ?_
    refine G_rf rfl rfl (by decide) (hR 2 0 3 rfl) ?_
    refine G_go rfl rfl ?_
    refine G_call rfl rfl ?_
    refine G_go rfl rfl ?_
    refine G_rf rfl rfl (by decide) (hR 3 0 4 rfl) ?_
    refine G_go rfl rfl ?_
    refine G_ir (n := 6) rfl rfl (by decide) (by decide) (by decide) ?_
    refine G_go rfl rfl ?_
    refine G_rf rfl rfl (by decide) (hR 3 1 5 rfl) ?_
    refine G_go rfl rfl ?_
    refine G_ir (n := 6) rfl rfl (by decide) (by decide) (by decide) ?_
    refine G_go rfl rfl ?_
    refine G_rf rfl rfl (by decide) (hR 3 2 6 rfl) ?_
    refine G_go rfl rfl ?_
    refine G_ir (n := 6) rfl rfl (by decide) (by decide) (by decide) ?_
    refine G_go rfl rfl ?_
    refine G_rf rfl rfl (by decide) (hR 3 3 7 rfl) ?_
    refine G_go rfl rfl ?_
    refine G_ir (n := 6) rfl rfl (by decide) (by decide) (by decide) ?_
    refine G_call rfl rfl ?_
    obtain ⟨g2, h⟩ := h
    obtain ⟨g3, h⟩ := h
    obtain ⟨g4, h⟩ := h
    refine c_X1_wealth n _ _ (s 4 0) (s 5 0) (s 6 0) (s 7 0) hR g2 g3 g4 ?_
    refine G_ret rfl rfl ?_
    refine G_go rfl rfl ?_
    refine G_go rfl rfl ?_
    refine G_go rfl rfl ?_
    refine G_go rfl rfl ?_
    refine G_go rfl rfl ?_
    exact h
  · have h := h.2 c1
    refine G_go rfl rfl ?_
    exact G_ret rfl rfl h
theorem sb_X6_apart_25 (n : Nat) (s : Nat → Nat → Int) (Q : List Vl → Sto → Prop) (x1 : Int) (x2 : Int) (x3 : Int) (hR : refs s)
    (h : (s 3 9 ≤ x3 → Q [(1, wr (x1 - x2))] (n, s)) ∧ (x3 < s 3 9 → (0 ≤ x3 ∧ x3 < 6) ∧ ((0 ≤ s 5 x3.toNat ∧ s 5 x3.toNat ≤ 9) ∧ ((0 ≤ s 6 x3.toNat ∧ s 6 x3.toNat ≤ 2000) ∧ ((0 ≤ s 7 x3.toNat ∧ s 7 x3.toNat ≤ 200) ∧ (G 2 120 64 25 [(3, 2), (1, max x1 (wlt (s 4 x3.toNat) (s 5 x3.toNat) (s 6 x3.toNat) (s 7 x3.toNat))), (1, min x2 (wlt (s 4 x3.toNat) (s 5 x3.toNat) (s 6 x3.toNat) (s 7 x3.toNat))), (1, wr (x3 + 1))] [] (n, s) Q)))))) :
    G 2 120 64 25 [(3, 2), (1, x1), (1, x2), (1, x3)] [] (n, s) Q := by
  refine G_go rfl rfl ?_
  refine G_go rfl rfl ?_
  refine G_rf rfl rfl (by decide) (hR 2 0 3 rfl) ?_
  refine G_rd rfl rfl (by decide) ?_
  refine G_ge rfl rfl (fun c1 => ?_) (fun c1 => ?_)
  · have h := h.1 c1
    refine G_go rfl rfl ?_
    refine G_go rfl rfl ?_
    refine G_go rfl rfl ?_
    exact G_ret rfl rfl h
  · have h := h.2 c1
    refine G_go rfl rfl ?_
    refine G_go rfl rfl ?_
    refine G_rf rfl rfl (by decide) (hR 2 0 3 rfl) ?_
    refine G_go rfl rfl ?_
    refine G_call rfl rfl ?_
    refine G_go rfl rfl ?_
    refine G_rf rfl rfl (by decide) (hR 3 0 4 rfl) ?_
    refine G_go rfl rfl ?_
    obtain ⟨g2, h⟩ := h
    refine G_ir (n := 6) rfl rfl (by decide) (by decide) g2 ?_
    refine G_go rfl rfl ?_
    refine G_rf rfl rfl (by decide) (hR 3 1 5 rfl) ?_
    refine G_go rfl rfl ?_
    refine G_ir (n := 6) rfl rfl (by decide) (by decide) g2 ?_
    refine G_go rfl rfl ?_
    refine G_rf rfl rfl (by decide) (hR 3 2 6 rfl) ?_
    refine G_go rfl rfl ?_
    refine G_ir (n := 6) rfl rfl (by decide) (by decide) g2 ?_
    refine G_go rfl rfl ?_
    refine G_rf rfl rfl (by decide) (hR 3 3 7 rfl) ?_
    refine G_go rfl rfl ?_
    refine G_ir (n := 6) rfl rfl (by decide) (by decide) g2 ?_
    refine G_call rfl rfl ?_
    obtain ⟨g3, h⟩ := h
    obtain ⟨g4, h⟩ := h
    obtain ⟨g5, h⟩ := h
    refine c_X1_wealth n _ _ (s 4 x3.toNat) (s 5 x3.toNat) (s 6 x3.toNat) (s 7 x3.toNat) hR g3 g4 g5 ?_
    refine G_ret rfl rfl ?_
    refine G_max rfl rfl ?_
    refine G_go rfl rfl ?_
    refine G_go rfl rfl ?_
    refine G_go rfl rfl ?_
    refine G_rf rfl rfl (by decide) (hR 2 0 3 rfl) ?_
    refine G_go rfl rfl ?_
    refine G_call rfl rfl ?_
    refine G_go rfl rfl ?_
    refine G_rf rfl rfl (by decide) (hR 3 0 4 rfl) ?_
    refine G_go rfl rfl ?_
    refine G_ir (n := 6) rfl rfl (by decide) (by decide) g2 ?_
    refine G_go rfl rfl ?_
    refine G_rf rfl rfl (by decide) (hR 3 1 5 rfl) ?_
    refine G_go rfl rfl ?_
    refine G_ir (n := 6) rfl rfl (by decide) (by decide) g2 ?_
    refine G_go rfl rfl ?_
    refine G_rf rfl rfl (by decide) (hR 3 2 6 rfl) ?_
    refine G_go rfl rfl ?_
    refine G_ir (n := 6) rfl rfl (by decide) (by decide) g2 ?_
    refine G_go rfl rfl ?_
    refine G_rf rfl rfl (by decide) (hR 3 3 7 rfl) ?_
    refine G_go rfl rfl ?_
    refine G_ir (n := 6) rfl rfl (by decide) (by decide) g2 ?_
    refine G_call rfl rfl ?_
    refine c_X1_wealth n _ _ (s 4 x3.toNat) (s 5 x3.toNat) (s 6 x3.toNat) (s 7 x3.toNat) hR g3 g4 g5 ?_
    refine G_ret rfl rfl ?_
    refine G_min rfl rfl ?_
    refine G_go rfl rfl ?_
    refine G_go rfl rfl ?_
    refine G_go rfl rfl ?_
    exact h
theorem sb_X7_apart_0 (n : Nat) (s : Nat → Nat → Int) (Q : List Vl → Sto → Prop) (hR : refs s)
    (h : G 120 140 154 11 [(3, 120), (1, 0), (1, 0), (1, 0), (0, 0)] [] (n, upS s 120 10 0) Q) :
    G 120 140 154 0 [(3, 120), (0, 0), (0, 0), (0, 0), (0, 0)] [] (n, s) Q := by
  refine G_go rfl rfl ?_
  refine G_go rfl rfl ?_
  refine G_wr rfl rfl (by decide) ?_
  have hR := refs_up (a := 120) (k := 10) (x := 0) hR rfl
  refine G_go rfl rfl ?_
  refine G_go rfl rfl ?_
  refine G_go rfl rfl ?_
  refine G_go rfl rfl ?_
  refine G_go rfl rfl ?_
  refine G_go rfl rfl ?_
  exact h
theorem sb_X7_apart_11 (n : Nat) (s : Nat → Nat → Int) (Q : List Vl → Sto → Prop) (x1 : Int) (x2 : Int) (x3 : Int) (w4 : Vl) (hR : refs s)
    (h : (s 120 0 ≤ x3 → Q [(1, wr (x1 - x2))] (n, s)) ∧ (x3 < s 120 0 → (0 ≤ x3 ∧ x3 < 6) ∧ ((rgP (vw 121 s) x3.toNat) ∧ ((0 ≤ vw 121 s 2 x3.toNat ∧ vw 121 s 2 x3.toNat ≤ 2000) ∧ ((x3 = 0 → G 120 140 154 11 [(3, 120), (1, wlW (vw 121 s) x3.toNat), (1, wlW (vw 121 s) x3.toNat), (1, wr (x3 + 1)), (1, wlW (vw 121 s) x3.toNat)] [] (n, s) Q) ∧ (x3 ≠ 0 → (wlW (vw 121 s) x3.toNat ≤ x1 → (x2 ≤ wlW (vw 121 s) x3.toNat → G 120 140 154 11 [(3, 120), (1, x1), (1, x2), (1, wr (x3 + 1)), (1, wlW (vw 121 s) x3.toNat)] [] (n, s) Q) ∧ (wlW (vw 121 s) x3.toNat < x2 → G 120 140 154 11 [(3, 120), (1, x1), (1, wlW (vw 121 s) x3.toNat), (1, wr (x3 + 1)), (1, wlW (vw 121 s) x3.toNat)] [] (n, s) Q)) ∧ (x1 < wlW (vw 121 s) x3.toNat → (x2 ≤ wlW (vw 121 s) x3.toNat → G 120 140 154 11 [(3, 120), (1, wlW (vw 121 s) x3.toNat), (1, x2), (1, wr (x3 + 1)), (1, wlW (vw 121 s) x3.toNat)] [] (n, s) Q) ∧ (wlW (vw 121 s) x3.toNat < x2 → G 120 140 154 11 [(3, 120), (1, wlW (vw 121 s) x3.toNat), (1, wlW (vw 121 s) x3.toNat), (1, wr (x3 + 1)), (1, wlW (vw 121 s) x3.toNat)] [] (n, s) Q)))))))) :
    G 120 140 154 11 [(3, 120), (1, x1), (1, x2), (1, x3), w4] [] (n, s) Q := by
  refine G_go rfl rfl ?_
  refine G_go rfl rfl ?_
  refine G_rd rfl rfl (by decide) ?_
  refine G_ge rfl rfl (fun c1 => ?_) (fun c1 => ?_)
  · have h := h.1 c1
    refine G_go rfl rfl ?_
    refine G_go rfl rfl ?_
    refine G_go rfl rfl ?_
    exact G_ret rfl rfl h
  · have h := h.2 c1
    refine G_go rfl rfl ?_
    refine G_go rfl rfl ?_
    refine G_call rfl rfl ?_
    obtain ⟨g2, h⟩ := h
    obtain ⟨g3, h⟩ := h
    obtain ⟨g4, h⟩ := h
    refine c_X7_wealthOf n _ _ x3 hR g2 g3 g4 ?_
    refine G_go rfl rfl ?_
    refine G_go rfl rfl ?_
    refine G_eq rfl rfl (fun c5 => ?_) (fun c5 => ?_)
    · have h := h.1 c5
      refine G_go rfl rfl ?_
      refine G_go rfl rfl ?_
      refine G_go rfl rfl ?_
      refine G_go rfl rfl ?_
      refine G_eq rfl rfl (fun _ => ?_) (fun hc => absurd (show x3 ≠ 0 from hc) (by omega))
      refine G_go rfl rfl ?_
      refine G_go rfl rfl ?_
      refine G_go rfl rfl ?_
      refine G_go rfl rfl ?_
      refine G_go rfl rfl ?_
      exact h
    · have h := h.2 c5
      refine G_go rfl rfl ?_
      refine G_go rfl rfl ?_
      refine G_le rfl rfl (fun c6 => ?_) (fun c6 => ?_)
      · have h := h.1 c6
        refine G_go rfl rfl ?_
        refine G_go rfl rfl ?_
        refine G_go rfl rfl ?_
        refine G_eq rfl rfl (fun hc => absurd (show x3 = 0 from hc) (by omega)) (fun _ => ?_)
        refine G_go rfl rfl ?_
        refine G_go rfl rfl ?_
        refine G_ge rfl rfl (fun c7 => ?_) (fun c7 => ?_)
        · have h := h.1 c7
          refine G_go rfl rfl ?_
          refine G_go rfl rfl ?_
          refine G_go rfl rfl ?_
          refine G_go rfl rfl ?_
          exact h
        · have h := h.2 c7
          refine G_go rfl rfl ?_
          refine G_go rfl rfl ?_
          refine G_go rfl rfl ?_
          refine G_go rfl rfl ?_
          refine G_go rfl rfl ?_
          exact h
      · have h := h.2 c6
        refine G_go rfl rfl ?_
        refine G_go rfl rfl ?_
        refine G_go rfl rfl ?_
        refine G_go rfl rfl ?_
        refine G_eq rfl rfl (fun hc => absurd (show x3 = 0 from hc) (by omega)) (fun _ => ?_)
        refine G_go rfl rfl ?_
        refine G_go rfl rfl ?_
        refine G_ge rfl rfl (fun c8 => ?_) (fun c8 => ?_)
        · have h := h.1 c8
          refine G_go rfl rfl ?_
          refine G_go rfl rfl ?_
          refine G_go rfl rfl ?_
          refine G_go rfl rfl ?_
          exact h
        · have h := h.2 c8
          refine G_go rfl rfl ?_
          refine G_go rfl rfl ?_
          refine G_go rfl rfl ?_
          refine G_go rfl rfl ?_
          refine G_go rfl rfl ?_
          exact h
def abF (t : Nat → Nat → Int) (v : Int) (k : Nat) (b : Int) : Int := if v ≤ wlW (vw 121 t) k then wr (b + 1) else wr (b + 0)
theorem abF_in {t : Nat → Nat → Int} {v : Int} (k : Nat) (b : Int) : inI (k + 1) (abF t v k b) := by
  unfold abF
  split
  · exact wr_in _
  · exact wr_in _
theorem cl_above (n : Nat) (s t : Nat → Nat → Int) (h : REL s t) (a0 x2 : Int) (Q : List Vl → Sto → Prop) (hq : Q [(1, itr (abF t a0) 0 (t 120 0).toNat)] (n, s)) : G 2 120 60 24 [(3, 2), (1, a0), (1, x2), (1, 0), (1, 0)] [] (n, s) Q := by
  obtain ⟨hn1, hn2, hn3, hn4⟩ := h.np
  refine G_up (t 120 0).toNat (fun k b => G 2 120 60 24 [(3, 2), (1, a0), (1, x2), (1, b), (1, (k : Int))] [] (n, s) Q) (abF t a0) inI 0 (by unfold inI; omega) (fun k b _ _ => abF_in k b) (fun k b hk hb hg => ?_) (fun _ => ?_)
  · have hp : (k : Int) < t 120 0 := by omega
    obtain ⟨⟨g1, g2⟩, g3, g4, g5, g6⟩ := h.rg k hp
    rw [← wr_s hk (by omega)] at hg
    refine sb_X6_above_24 n s Q a0 x2 b k h.1 ⟨fun e => by omega, fun _ => ⟨by omega, g1, g4, g2, fun c => ?_, fun c => ?_⟩⟩
    · rw [Int.toNat_natCast, h.wl k hp] at c
      rw [show abF t a0 k b = b by unfold abF; rw [if_neg (by omega)]; exact wr_0 hb] at hg
      exact hg
    · rw [Int.toNat_natCast, h.wl k hp] at c
      rw [show abF t a0 k b = wr (b + 1) from if_pos c] at hg
      exact hg
  · exact sb_X6_above_24 n s Q a0 x2 _ _ h.1 ⟨fun _ => hq, fun e => by omega⟩
theorem rl_above (n : Nat) (s t : Nat → Nat → Int) (h : REL s t) (a0 : Int) (Q : List Vl → Sto → Prop) (hq : Q [(1, itr (abF t a0) 0 (t 120 0).toNat)] (n, t)) : G 120 140 137 33 [(3, 120), (1, a0), (1, 0), (1, 0)] [] (n, t) Q := by
  obtain ⟨hn1, hn2, hn3, hn4⟩ := h.np
  refine G_up (t 120 0).toNat (fun k b => G 120 140 137 33 [(3, 120), (1, a0), (1, b), (1, (k : Int))] [] (n, t) Q) (abF t a0) inI 0 (by unfold inI; omega) (fun k b _ _ => abF_in k b) (fun k b hk hb hg => ?_) (fun _ => ?_)
  · have hp : (k : Int) < t 120 0 := by omega
    obtain ⟨g1, g2, g3, g4, g5, g6⟩ := h.rg k hp
    rw [← wr_s hk (by omega)] at hg
    refine sb_X7_above_33 n t Q a0 b k h.2.1 ⟨fun e => by omega, fun _ => ⟨by omega, g2, g4, fun c => ?_, fun c => ?_⟩⟩
    · rw [Int.toNat_natCast] at c
      rw [show abF t a0 k b = wr (b + 0) from if_neg (by omega)] at hg
      exact hg
    · rw [Int.toNat_natCast] at c
      rw [show abF t a0 k b = wr (b + 1) from if_pos c] at hg
      exact hg
  · exact sb_X7_above_33 n t Q a0 _ _ h.2.1 ⟨fun _ => hq, fun e => by omega⟩
theorem op_above (n : Nat) (s t : Nat → Nat → Int) (h : REL s t) (a0 : Int) : G 2 120 60 0 [(3, 2), (1, a0), (0, 0), (0, 0), (0, 0)] [] (n, s) (fun r s1 => G 120 140 137 0 [(3, 120), (1, a0), (0, 0), (0, 0)] [] (n, t) (Post n r s1)) := by
  refine sb_X6_above_0 n s _ a0 h.1 ?_
  repeat' first | with_reducible refine And.intro ?_ ?_ | intro _
  all_goals first | refine cl_above n s _ h.up a0 _ _ ?_ | skip
  all_goals refine sb_X7_above_0 n t _ _ h.2.1 ?_
  all_goals repeat' first | with_reducible refine And.intro ?_ ?_ | intro _
  all_goals first | omega | exact post_ref h _ (by decide) | skip
  exact rl_above n s _ h.up a0 _ (post_same h rfl)

def trF (t : Nat → Nat → Int) (v : Int) (k : Nat) (b : Int) : Int := if t 128 k = v then wr (b + 1) else wr (b + 0)
theorem trF_in {t : Nat → Nat → Int} {v : Int} (k : Nat) (b : Int) : inI (k + 1) (trF t v k b) := by
  unfold trF
  split
  · exact wr_in _
  · exact wr_in _
theorem cl_trusted (n : Nat) (s t : Nat → Nat → Int) (h : REL s t) (a0 : Int) (x2 : Int) (h0 : 0 ≤ a0) (Q : List Vl → Sto → Prop) (hq : Q [(1, itr (trF t a0) 0 (t 120 0).toNat)] (n, s)) : G 2 120 129 21 [(3, 2), (1, a0), (1, x2), (1, 0), (1, 0)] [] (n, s) Q := by
  obtain ⟨hn1, hn2, hn3, hn4⟩ := h.np
  refine G_up (t 120 0).toNat (fun k b => G 2 120 129 21 [(3, 2), (1, a0), (1, x2), (1, b), (1, (k : Int))] [] (n, s) Q) (trF t a0) inI 0 (by unfold inI; omega) (fun k b _ _ => trF_in k b) (fun k b hk hb hg => ?_) (fun _ => ?_)
  · have hp : (k : Int) < t 120 0 := by omega
    obtain ⟨g1, g2, g3, g4, g5, g6⟩ := h.rg k hp
    have hs := h.s k hp
    have ht := h.t k hp
    rw [← wr_s hk (by omega)] at hg
    refine sb_X6_trusted_21 n s Q a0 x2 b k h.1 ⟨fun e => by omega, fun _ => ?_⟩
    simp only [Int.toNat_natCast]
    repeat' first | with_reducible refine And.intro ?_ ?_ | intro _
    all_goals first | omega | assumption | exact g1.1 | exact g1.2 | skip
    all_goals unfold trF at hg
    all_goals (repeat' split at hg)
    all_goals first | exact hg | (exfalso; omega) | (simp only [wr_0 hb, xor_0 hb] at hg; exact hg) | skip
  · exact sb_X6_trusted_21 n s Q a0 x2 _ _ h.1 ⟨fun _ => hq, fun e => by omega⟩
theorem rl_trusted (n : Nat) (s t : Nat → Nat → Int) (h : REL s t) (a0 : Int) (Q : List Vl → Sto → Prop) (hq : Q [(1, itr (trF t a0) 0 (t 120 0).toNat)] (n, t)) : G 120 140 220 23 [(3, 120), (1, a0), (1, 0), (1, 0)] [] (n, t) Q := by
  obtain ⟨hn1, hn2, hn3, hn4⟩ := h.np
  refine G_up (t 120 0).toNat (fun k b => G 120 140 220 23 [(3, 120), (1, a0), (1, b), (1, (k : Int))] [] (n, t) Q) (trF t a0) inI 0 (by unfold inI; omega) (fun k b _ _ => trF_in k b) (fun k b hk hb hg => ?_) (fun _ => ?_)
  · have hp : (k : Int) < t 120 0 := by omega
    obtain ⟨g1, g2, g3, g4, g5, g6⟩ := h.rg k hp
    have hs := h.s k hp
    have ht := h.t k hp
    rw [← wr_s hk (by omega)] at hg
    refine sb_X7_trusted_23 n t Q a0 b k h.2.1 ⟨fun e => by omega, fun _ => ?_⟩
    simp only [Int.toNat_natCast]
    repeat' first | with_reducible refine And.intro ?_ ?_ | intro _
    all_goals first | omega | assumption | exact g1.1 | exact g1.2 | skip
    all_goals unfold trF at hg
    all_goals (repeat' split at hg)
    all_goals first | exact hg | (exfalso; omega) | (simp only [wr_0 hb, xor_0 hb] at hg; exact hg) | skip
  · exact sb_X7_trusted_23 n t Q a0 _ _ h.2.1 ⟨fun _ => hq, fun e => by omega⟩
theorem op_trusted (n : Nat) (s t : Nat → Nat → Int) (h : REL s t) (a0 : Int) : G 2 120 129 0 [(3, 2), (1, a0), (0, 0), (0, 0), (0, 0)] [] (n, s) (fun r s1 => G 120 140 220 0 [(3, 120), (1, a0), (0, 0), (0, 0)] [] (n, t) (Post n r s1)) := by
  obtain ⟨hn1, hn2, hn3, hn4⟩ := h.np
  have hw : wr (t 120 0 - 1) = t 120 0 - 1 := wr_id (by omega) (by omega)
  refine sb_X6_trusted_0 n s _ a0 h.1 ?_
  repeat' first | with_reducible refine And.intro ?_ ?_ | intro _
  all_goals first | omega | refine cl_trusted n s _ h.up a0 _ (by omega) _ ?_ | skip
  all_goals refine sb_X7_trusted_0 n t _ a0 h.2.1 ?_
  all_goals repeat' first | with_reducible refine And.intro ?_ ?_ | intro _
  all_goals first | omega | exact post_ref h _ (by decide) | skip
  exact rl_trusted n s _ h.up a0 _ (post_same h rfl)
def unF (t : Nat → Nat → Int) (k : Nat) (b : Int) : Int := if 0 < t 125 k ∧ t 126 k = 0 then xor_ b (xshl 1 k) else xor_ b 0
theorem unF_in {t : Nat → Nat → Int} (k : Nat) (b : Int) : inI (k + 1) (unF t k b) := by
  unfold unF
  split
  · exact xor_in _ _
  · exact xor_in _ _
theorem cl_unlit (n : Nat) (s t : Nat → Nat → Int) (h : REL s t) (Q : List Vl → Sto → Prop) (hq : Q [(1, itr (unF t) 0 (t 120 0).toNat)] (n, s)) : G 2 120 131 4 [(3, 2), (1, 0), (1, 0)] [] (n, s) Q := by
  obtain ⟨hn1, hn2, hn3, hn4⟩ := h.np
  refine G_up (t 120 0).toNat (fun k b => G 2 120 131 4 [(3, 2), (1, b), (1, (k : Int))] [] (n, s) Q) (unF t) inI 0 (by unfold inI; omega) (fun k b _ _ => unF_in k b) (fun k b hk hb hg => ?_) (fun _ => ?_)
  · have hp : (k : Int) < t 120 0 := by omega
    obtain ⟨g1, g2, g3, g4, g5, g6⟩ := h.rg k hp
    have hs := h.s k hp
    have ht := h.t k hp
    rw [← wr_s hk (by omega)] at hg
    refine sb_X6_unlit_4 n s Q b k h.1 ⟨fun e => by omega, fun _ => ?_⟩
    simp only [Int.toNat_natCast]
    repeat' first | with_reducible refine And.intro ?_ ?_ | intro _
    all_goals first | omega | assumption | exact g1.1 | exact g1.2 | skip
    all_goals unfold unF at hg
    all_goals (repeat' split at hg)
    all_goals first | exact hg | (exfalso; omega) | (simp only [wr_0 hb, xor_0 hb] at hg; exact hg) | skip
  · exact sb_X6_unlit_4 n s Q _ _ h.1 ⟨fun _ => hq, fun e => by omega⟩
theorem rl_unlit (n : Nat) (s t : Nat → Nat → Int) (h : REL s t) (Q : List Vl → Sto → Prop) (hq : Q [(1, itr (unF t) 0 (t 120 0).toNat)] (n, t)) : G 120 140 222 9 [(3, 120), (1, 0), (1, 0)] [] (n, t) Q := by
  obtain ⟨hn1, hn2, hn3, hn4⟩ := h.np
  refine G_up (t 120 0).toNat (fun k b => G 120 140 222 9 [(3, 120), (1, b), (1, (k : Int))] [] (n, t) Q) (unF t) inI 0 (by unfold inI; omega) (fun k b _ _ => unF_in k b) (fun k b hk hb hg => ?_) (fun _ => ?_)
  · have hp : (k : Int) < t 120 0 := by omega
    obtain ⟨g1, g2, g3, g4, g5, g6⟩ := h.rg k hp
    have hs := h.s k hp
    have ht := h.t k hp
    rw [← wr_s hk (by omega)] at hg
    refine sb_X7_unlit_9 n t Q b k h.2.1 ⟨fun e => by omega, fun _ => ?_⟩
    simp only [Int.toNat_natCast]
    repeat' first | with_reducible refine And.intro ?_ ?_ | intro _
    all_goals first | omega | assumption | exact g1.1 | exact g1.2 | skip
    all_goals unfold unF at hg
    all_goals (repeat' split at hg)
    all_goals first | exact hg | (exfalso; omega) | (simp only [wr_0 hb, xor_0 hb] at hg; exact hg) | skip
  · exact sb_X7_unlit_9 n t Q _ _ h.2.1 ⟨fun _ => hq, fun e => by omega⟩
theorem op_unlit (n : Nat) (s t : Nat → Nat → Int) (h : REL s t) : G 2 120 131 0 [(3, 2), (0, 0), (0, 0)] [] (n, s) (fun r s1 => G 120 140 222 0 [(3, 120), (0, 0), (0, 0)] [] (n, t) (Post n r s1)) :=
  sb_X6_unlit_0 n s _ h.1 (cl_unlit n s _ h.up _ (sb_X7_unlit_0 n t _ h.2.1 (rl_unlit n s _ h.up _ (post_same h rfl))))
end
section
theorem sb_X6_whoLastsLongest_0 (n : Nat) (s : Nat → Nat → Int) (Q : List Vl → Sto → Prop) (hR : refs s)
    (h : G 2 120 104 7 [(3, 2), (1, (-9)), (1, (-1)), (1, 0), (0, 0)] [] (n, s) Q) :
    G 2 120 104 0 [(3, 2), (0, 0), (0, 0), (0, 0), (0, 0)] [] (n, s) Q := by
  refine G_go rfl rfl ?_
  refine G_go rfl rfl ?_
  refine G_go rfl rfl ?_
  refine G_go rfl rfl ?_
  refine G_go rfl rfl ?_
  refine G_go rfl rfl ?_
  exact h
theorem sb_X6_whoLastsLongest_7 (n : Nat) (s : Nat → Nat → Int) (Q : List Vl → Sto → Prop) (x1 : Int) (x2 : Int) (x3 : Int) (w4 : Vl) (hR : refs s)
    (h : (s 3 9 ≤ x3 → Q [(1, x1)] (n, s)) ∧ (x3 < s 3 9 → (0 ≤ x3 ∧ x3 < 6) ∧ ((rgP (vw 4 s) x3.toNat) ∧ ((0 ≤ s 6 x3.toNat ∧ s 6 x3.toNat ≤ 2000) ∧ ((0 ≤ vw 4 s 4 x3.toNat ∧ vw 4 s 4 x3.toNat ≤ 99) ∧ ((lsV (vw 4 s) x3.toNat (s 6 x3.toNat) ≤ x2 → G 2 120 104 7 [(3, 2), (1, x1), (1, x2), (1, wr (x3 + 1)), (1, lsV (vw 4 s) x3.toNat (s 6 x3.toNat))] [] (n, s) Q) ∧ (x2 < lsV (vw 4 s) x3.toNat (s 6 x3.toNat) → G 2 120 104 7 [(3, 2), (1, x3), (1, lsV (vw 4 s) x3.toNat (s 6 x3.toNat)), (1, wr (x3 + 1)), (1, lsV (vw 4 s) x3.toNat (s 6 x3.toNat))] [] (n, s) Q))))))) :
    G 2 120 104 7 [(3, 2), (1, x1), (1, x2), (1, x3), w4] [] (n, s) Q := by
  refine G_go rfl rfl ?_
  refine G_go rfl rfl ?_
  refine G_rf rfl rfl (by decide) (hR 2 0 3 rfl) ?_
  refine G_rd rfl rfl (by decide) ?_
  refine G_ge rfl rfl (fun c1 => ?_) (fun c1 => ?_)
  · have h := h.1 c1
    refine G_go rfl rfl ?_
    exact G_ret rfl rfl h
  · have h := h.2 c1
    refine G_go rfl rfl ?_
    refine G_rf rfl rfl (by decide) (hR 2 0 3 rfl) ?_
    refine G_go rfl rfl ?_
    refine G_call rfl rfl ?_
    refine G_go rfl rfl ?_
    refine G_go rfl rfl ?_
    refine G_go rfl rfl ?_
    refine G_rf rfl rfl (by decide) (hR 3 2 6 rfl) ?_
    refine G_go rfl rfl ?_
    obtain ⟨g2, h⟩ := h
    refine G_ir (n := 6) rfl rfl (by decide) (by decide) g2 ?_
    refine G_call rfl rfl ?_
    obtain ⟨g3, h⟩ := h
    obtain ⟨g4, h⟩ := h
    obtain ⟨g5, h⟩ := h
    refine c_X5_lastsHolding_3 n _ _ x3 (s 6 x3.toNat) hR g2 g3 g4 g5 ?_
    refine G_ret rfl rfl ?_
    refine G_go rfl rfl ?_
    refine G_go rfl rfl ?_
    refine G_go rfl rfl ?_
    refine G_le rfl rfl (fun c6 => ?_) (fun c6 => ?_)
    · have h := h.1 c6
      refine G_go rfl rfl ?_
      refine G_go rfl rfl ?_
      exact h
    · have h := h.2 c6
      refine G_go rfl rfl ?_
      refine G_go rfl rfl ?_
      refine G_go rfl rfl ?_
      refine G_go rfl rfl ?_
      refine G_go rfl rfl ?_
      refine G_go rfl rfl ?_
      exact h
theorem sb_X7_longestOne_0 (n : Nat) (s : Nat → Nat → Int) (Q : List Vl → Sto → Prop) (hR : refs s)
    (h : G 120 140 195 5 [(3, 120), (1, (-9)), (1, 0)] [] (n, s) Q) :
    G 120 140 195 0 [(3, 120), (0, 0), (0, 0)] [] (n, s) Q := by
  refine G_go rfl rfl ?_
  refine G_go rfl rfl ?_
  refine G_go rfl rfl ?_
  refine G_go rfl rfl ?_
  exact h
theorem sb_X7_longestOne_5 (n : Nat) (s : Nat → Nat → Int) (Q : List Vl → Sto → Prop) (x1 : Int) (x2 : Int) (hR : refs s)
    (h : (s 120 0 ≤ x2 → Q [(1, x1)] (n, s)) ∧ (x2 < s 120 0 → (x1 < 0 → G 120 140 195 5 [(3, 120), (1, x2), (1, wr (x2 + 1))] [] (n, s) Q) ∧ (0 ≤ x1 → (0 ≤ x2 ∧ x2 < 6) ∧ ((rgP (vw 121 s) x2.toNat) ∧ ((0 ≤ vw 121 s 2 x2.toNat ∧ vw 121 s 2 x2.toNat ≤ 2000) ∧ ((0 ≤ vw 121 s 4 x2.toNat ∧ vw 121 s 4 x2.toNat ≤ 99) ∧ ((0 ≤ x1 ∧ x1 < 6) ∧ ((rgP (vw 121 s) x1.toNat) ∧ ((0 ≤ vw 121 s 2 x1.toNat ∧ vw 121 s 2 x1.toNat ≤ 2000) ∧ ((0 ≤ vw 121 s 4 x1.toNat ∧ vw 121 s 4 x1.toNat ≤ 99) ∧ ((lsW (vw 121 s) x2.toNat ≤ lsW (vw 121 s) x1.toNat → G 120 140 195 5 [(3, 120), (1, x1), (1, wr (x2 + 1))] [] (n, s) Q) ∧ (lsW (vw 121 s) x1.toNat < lsW (vw 121 s) x2.toNat → G 120 140 195 5 [(3, 120), (1, x2), (1, wr (x2 + 1))] [] (n, s) Q)))))))))))) :
    G 120 140 195 5 [(3, 120), (1, x1), (1, x2)] [] (n, s) Q := by
  refine G_go rfl rfl ?_
  refine G_go rfl rfl ?_
  refine G_rd rfl rfl (by decide) ?_
  refine G_ge rfl rfl (fun c1 => ?_) (fun c1 => ?_)
  · have h := h.1 c1
    refine G_go rfl rfl ?_
    exact G_ret rfl rfl h
  · have h := h.2 c1
    refine G_go rfl rfl ?_
    refine G_lt rfl rfl (fun c2 => ?_) (fun c2 => ?_)
    · have h := h.1 c2
      refine G_go rfl rfl ?_
      refine G_go rfl rfl ?_
      refine G_go rfl rfl ?_
      refine G_go rfl rfl ?_
      refine G_go rfl rfl ?_
      exact h
    · have h := h.2 c2
      refine G_go rfl rfl ?_
      refine G_go rfl rfl ?_
      refine G_call rfl rfl ?_
      obtain ⟨g3, h⟩ := h
      obtain ⟨g4, h⟩ := h
      obtain ⟨g5, h⟩ := h
      obtain ⟨g6, h⟩ := h
      refine c_X7_lastsOf n _ _ x2 hR g3 g4 g5 g6 ?_
      refine G_go rfl rfl ?_
      refine G_go rfl rfl ?_
      refine G_call rfl rfl ?_
      obtain ⟨g7, h⟩ := h
      obtain ⟨g8, h⟩ := h
      obtain ⟨g9, h⟩ := h
      obtain ⟨g10, h⟩ := h
      refine c_X7_lastsOf n _ _ x1 hR g7 g8 g9 g10 ?_
      refine G_le rfl rfl (fun c11 => ?_) (fun c11 => ?_)
      · have h := h.1 c11
        refine G_go rfl rfl ?_
        refine G_go rfl rfl ?_
        refine G_go rfl rfl ?_
        refine G_go rfl rfl ?_
        exact h
      · have h := h.2 c11
        refine G_go rfl rfl ?_
        refine G_go rfl rfl ?_
        refine G_go rfl rfl ?_
        refine G_go rfl rfl ?_
        refine G_go rfl rfl ?_
        exact h
theorem sb_X6_isFurther_0 (n : Nat) (s : Nat → Nat → Int) (Q : List Vl → Sto → Prop) (a0 : Int) (a1 : Int) (a2 : Int) (hR : refs s)
    (h : (0 ≤ a0 ∧ a0 < 6) ∧ ((0 ≤ s 5 a0.toNat ∧ s 5 a0.toNat ≤ 9) ∧ ((0 ≤ s 6 a0.toNat ∧ s 6 a0.toNat ≤ 2000) ∧ ((0 ≤ s 7 a0.toNat ∧ s 7 a0.toNat ≤ 200) ∧ ((0 ≤ a1 ∧ a1 < 6) ∧ ((0 ≤ s 5 a1.toNat ∧ s 5 a1.toNat ≤ 9) ∧ ((0 ≤ s 6 a1.toNat ∧ s 6 a1.toNat ≤ 2000) ∧ ((0 ≤ s 7 a1.toNat ∧ s 7 a1.toNat ≤ 200) ∧ ((a2 ≠ 0 → (0 ≤ wr ((wlt (s 4 a0.toNat) (s 5 a0.toNat) (s 6 a0.toNat) (s 7 a0.toNat)) - (wlt (s 4 a1.toNat) (s 5 a1.toNat) (s 6 a1.toNat) (s 7 a1.toNat))) → Q [(1, 0)] (n, s)) ∧ (wr ((wlt (s 4 a0.toNat) (s 5 a0.toNat) (s 6 a0.toNat) (s 7 a0.toNat)) - (wlt (s 4 a1.toNat) (s 5 a1.toNat) (s 6 a1.toNat) (s 7 a1.toNat))) < 0 → Q [(1, 1)] (n, s))) ∧ (a2 = 0 → (wr ((wlt (s 4 a0.toNat) (s 5 a0.toNat) (s 6 a0.toNat) (s 7 a0.toNat)) - (wlt (s 4 a1.toNat) (s 5 a1.toNat) (s 6 a1.toNat) (s 7 a1.toNat))) ≤ 0 → Q [(1, 0)] (n, s)) ∧ (0 < wr ((wlt (s 4 a0.toNat) (s 5 a0.toNat) (s 6 a0.toNat) (s 7 a0.toNat)) - (wlt (s 4 a1.toNat) (s 5 a1.toNat) (s 6 a1.toNat) (s 7 a1.toNat))) → Q [(1, 1)] (n, s)))))))))))) :
    G 2 120 98 0 [(3, 2), (1, a0), (1, a1), (1, a2), (0, 0)] [] (n, s) Q := by
  refine G_go rfl rfl ?_
  refine G_rf rfl rfl (by decide) (hR 2 0 3 rfl) ?_
  refine G_go rfl rfl ?_
  refine G_call rfl rfl ?_
  refine G_go rfl rfl ?_
  refine G_rf rfl rfl (by decide) (hR 3 0 4 rfl) ?_
  refine G_go rfl rfl ?_
  obtain ⟨g1, h⟩ := h
  refine G_ir (n := 6) rfl rfl (by decide) (by decide) g1 ?_
  refine G_go rfl rfl ?_
  refine G_rf rfl rfl (by decide) (hR 3 1 5 rfl) ?_
  refine G_go rfl rfl ?_
  refine G_ir (n := 6) rfl rfl (by decide) (by decide) g1 ?_
  refine G_go rfl rfl ?_
  refine G_rf rfl rfl (by decide) (hR 3 2 6 rfl) ?_
  refine G_go rfl rfl ?_
  refine G_ir (n := 6) rfl rfl (by decide) (by decide) g1 ?_
  refine G_go rfl rfl ?_
  refine G_rf rfl rfl (by decide) (hR 3 3 7 rfl) ?_
  refine G_go rfl rfl ?_
  refine G_ir (n := 6) rfl rfl (by decide) (by decide) g1 ?_
  refine G_call rfl rfl ?_
  obtain ⟨g2, h⟩ := h
  obtain ⟨g3, h⟩ := h
  obtain ⟨g4, h⟩ := h
  refine c_X1_wealth n _ _ (s 4 a0.toNat) (s 5 a0.toNat) (s 6 a0.toNat) (s 7 a0.toNat) hR g2 g3 g4 ?_
  refine G_ret rfl rfl ?_
  refine G_go rfl rfl ?_
  refine G_rf rfl rfl (by decide) (hR 2 0 3 rfl) ?_
  refine G_go rfl rfl ?_
  refine G_call rfl rfl ?_
  refine G_go rfl rfl ?_
  refine G_rf rfl rfl (by decide) (hR 3 0 4 rfl) ?_
  refine G_go rfl rfl ?_
  obtain ⟨g5, h⟩ := h
  refine G_ir (n := 6) rfl rfl (by decide) (by decide) g5 ?_
  refine G_go rfl rfl ?_
  refine G_rf rfl rfl (by decide) (hR 3 1 5 rfl) ?_
  refine G_go rfl rfl ?_
  refine G_ir (n := 6) rfl rfl (by decide) (by decide) g5 ?_
  refine G_go rfl rfl ?_
  refine G_rf rfl rfl (by decide) (hR 3 2 6 rfl) ?_
  refine G_go rfl rfl ?_
  refine G_ir (n := 6) rfl rfl (by decide) (by decide) g5 ?_
  refine G_go rfl rfl ?_
  refine G_rf rfl rfl (by decide) (hR 3 3 7 rfl) ?_
  refine G_go rfl rfl ?_
  refine G_ir (n := 6) rfl rfl (by decide) (by decide) g5 ?_
  refine G_call rfl rfl ?_
  obtain ⟨g6, h⟩ := h
  obtain ⟨g7, h⟩ := h
  obtain ⟨g8, h⟩ := h
  refine c_X1_wealth n _ _ (s 4 a1.toNat) (s 5 a1.toNat) (s 6 a1.toNat) (s 7 a1.toNat) hR g6 g7 g8 ?_
  refine G_ret rfl rfl ?_
  refine G_go rfl rfl ?_
  refine G_go rfl rfl ?_
  refine G_go rfl rfl ?_
  refine G_ne rfl rfl (fun c9 => ?_) (fun c9 => ?_)
  · have h := h.1 c9
    refine G_go rfl rfl ?_
    refine G_ge rfl rfl (fun c10 => ?_) (fun c10 => ?_)
    · have h := h.1 c10
      refine G_go rfl rfl ?_
      exact G_ret rfl rfl h
    · have h := h.2 c10
      refine G_go rfl rfl ?_
      refine G_go rfl rfl ?_
      exact G_ret rfl rfl h
  · have h := h.2 c9
    refine G_go rfl rfl ?_
    refine G_le rfl rfl (fun c11 => ?_) (fun c11 => ?_)
    · have h := h.1 c11
      refine G_go rfl rfl ?_
      refine G_go rfl rfl ?_
      exact G_ret rfl rfl h
    · have h := h.2 c11
      refine G_go rfl rfl ?_
      refine G_go rfl rfl ?_
      exact G_ret rfl rfl h
/-! WHO HAS THE MOST. -/
def amF (W : Nat → Int) (k : Nat) (b : Int) : Int := if b < 0 then (k : Int) else if W b.toNat < W k then (k : Int) else b
def amI (k : Nat) (b : Int) : Prop := (b = -9 ∧ k = 0) ∨ (0 ≤ b ∧ b < k)
def mx (W : Nat → Int) (b : Int) : Int := if b < 0 then -1 else W b.toNat
theorem amF_in {W : Nat → Int} {k : Nat} {b : Int} (h : amI k b) : amI (k + 1) (amF W k b) := by
  unfold amF
  unfold amI at *
  repeat' split
  all_goals omega
theorem mx_nat (W : Nat → Int) (k : Nat) : mx W (k : Int) = W k := by
  unfold mx
  rw [if_neg (by omega), Int.toNat_natCast]
theorem amF_no {W : Nat → Int} {k : Nat} {b : Int} (h0 : 0 ≤ W k) (c : W k ≤ mx W b) : amF W k b = b := by
  unfold mx at c
  unfold amF
  split at c
  · omega
  · rename_i g
    rw [if_neg g, if_neg (by omega)]
theorem amF_yes {W : Nat → Int} {k : Nat} {b : Int} (c : mx W b < W k) : amF W k b = k := by
  unfold mx at c
  unfold amF
  split at c
  · rename_i g
    rw [if_pos g]
  · rename_i g
    rw [if_neg g, if_pos c]
theorem cl_longest (n : Nat) (s t : Nat → Nat → Int) (h : REL s t) (Q : List Vl → Sto → Prop) (hq : Q [(1, itr (amF (lsW (vw 121 t))) (-9) (t 120 0).toNat)] (n, s)) : G 2 120 104 0 [(3, 2), (0, 0), (0, 0), (0, 0), (0, 0)] [] (n, s) Q := by
  obtain ⟨hn1, hn2, hn3, hn4⟩ := h.np
  refine sb_X6_whoLastsLongest_0 n s Q h.1 ?_
  refine G_up (t 120 0).toNat (fun k b => ∀ w, G 2 120 104 7 [(3, 2), (1, b), (1, mx (lsW (vw 121 t)) b), (1, (k : Int)), w] [] (n, s) Q) (amF (lsW (vw 121 t))) amI (-9) (Or.inl ⟨rfl, rfl⟩) (fun k b _ hb => amF_in hb) (fun k b hk hb hg w => ?_) (fun _ w => ?_) (0, 0)
  · have hp : (k : Int) < t 120 0 := by omega
    obtain ⟨g1, g2, g3, g4, g5, g6⟩ := h.rg k hp
    have ht := h.t k hp
    have e : lsV (vw 4 s) k (s 6 k) = lsW (vw 121 t) k := by
      rw [h.ls k hp, (h.s k hp).2.2.1]
      rfl
    have hr : 0 ≤ lsW (vw 121 t) k := (h.lr k hp _ ⟨ht.2.2.1.1, by omega⟩).1
    rw [← wr_s hk (by omega)] at hg
    refine sb_X6_whoLastsLongest_7 n s Q b _ k w h.1 ⟨fun e => by omega, fun _ => ⟨by omega, g1, g3, g5, fun c => ?_, fun c => ?_⟩⟩
    all_goals rw [Int.toNat_natCast] at *
    all_goals rw [e] at *
    · rw [amF_no hr c] at hg
      exact hg _
    · rw [amF_yes c, mx_nat] at hg
      exact hg _
  · exact sb_X6_whoLastsLongest_7 n s Q _ _ _ _ h.1 ⟨fun _ => hq, fun e => by omega⟩
theorem rl_longest (n : Nat) (s t : Nat → Nat → Int) (h : REL s t) (Q : List Vl → Sto → Prop) (hq : Q [(1, itr (amF (lsW (vw 121 t))) (-9) (t 120 0).toNat)] (n, t)) : G 120 140 195 0 [(3, 120), (0, 0), (0, 0)] [] (n, t) Q := by
  obtain ⟨hn1, hn2, hn3, hn4⟩ := h.np
  refine sb_X7_longestOne_0 n t Q h.2.1 ?_
  refine G_up (t 120 0).toNat (fun k b => G 120 140 195 5 [(3, 120), (1, b), (1, (k : Int))] [] (n, t) Q) (amF (lsW (vw 121 t))) amI (-9) (Or.inl ⟨rfl, rfl⟩) (fun k b _ hb => amF_in hb) (fun k b hk hb hg => ?_) (fun _ => ?_)
  · have hp : (k : Int) < t 120 0 := by omega
    obtain ⟨g1, g2, g3, g4, g5, g6⟩ := h.rg k hp
    rw [← wr_s hk (by omega)] at hg
    refine sb_X7_longestOne_5 n t Q b k h.2.1 ⟨fun e => by omega, fun _ => ⟨fun c => ?_, fun c => ?_⟩⟩
    · rw [show amF (lsW (vw 121 t)) k b = k from if_pos c] at hg
      exact hg
    · have hb2 : b < k := by
        unfold amI at hb
        omega
      obtain ⟨b1, b2, b3, b4, b5, b6⟩ := h.rg b.toNat (by omega)
      refine ⟨by omega, g2, g4, g6, by omega, b2, b4, b6, fun d => ?_, fun d => ?_⟩
      · rw [Int.toNat_natCast] at d
        rw [show amF (lsW (vw 121 t)) k b = b by unfold amF; rw [if_neg (by omega), if_neg (by omega)]] at hg
        exact hg
      · rw [Int.toNat_natCast] at d
        rw [show amF (lsW (vw 121 t)) k b = k by unfold amF; rw [if_neg (by omega), if_pos d]] at hg
        exact hg
  · exact sb_X7_longestOne_5 n t Q _ _ h.2.1 ⟨fun _ => hq, fun e => by omega⟩

theorem sb_X6_tax_0 (n : Nat) (s : Nat → Nat → Int) (Q : List Vl → Sto → Prop) (a0 : Int) (a1 : Int) (hR : refs s)
    (h : (0 ≤ a0 → (a0 ≤ 9 → (a1 < 0 → Q [(1, (-2))] (n, upS s 119 2 (wr ((s 119 2) + 1)))) ∧ (0 ≤ a1 → (a1 ≤ 1 → G 2 120 126 39 [(3, 2), (1, a0), (1, a1), (1, 0), (1, 0), (1, (-9)), (1, (-1)), (1, 0), (0, 0)] [] (n, s) Q) ∧ (1 < a1 → Q [(1, (-2))] (n, upS s 119 2 (wr ((s 119 2) + 1)))))) ∧ (9 < a0 → (a1 < 0 → Q [(1, (-6))] (n, upS s 119 6 (wr ((s 119 6) + 1)))) ∧ (0 ≤ a1 → (a1 ≤ 1 → Q [(1, (-6))] (n, upS s 119 6 (wr ((s 119 6) + 1)))) ∧ (1 < a1 → Q [(1, (-6))] (n, upS s 119 6 (wr ((s 119 6) + 1))))))) ∧ (a0 < 0 → (a1 < 0 → Q [(1, (-4))] (n, upS s 119 4 (wr ((s 119 4) + 1)))) ∧ (0 ≤ a1 → (a1 ≤ 1 → Q [(1, (-4))] (n, upS s 119 4 (wr ((s 119 4) + 1)))) ∧ (1 < a1 → Q [(1, (-4))] (n, upS s 119 4 (wr ((s 119 4) + 1))))))) :
    G 2 120 126 0 [(3, 2), (1, a0), (1, a1), (0, 0), (0, 0), (0, 0), (0, 0), (0, 0), (0, 0)] [] (n, s) Q := by
  refine G_go rfl rfl ?_
  refine G_go rfl rfl ?_
  refine G_go rfl rfl ?_
  refine G_call rfl rfl ?_
  refine G_go rfl rfl ?_
  refine G_go rfl rfl ?_
  refine G_ge rfl rfl (fun c1 => ?_) (fun c1 => ?_)
  · have h := h.1 c1
    refine G_go rfl rfl ?_
    refine G_go rfl rfl ?_
    refine G_le rfl rfl (fun c2 => ?_) (fun c2 => ?_)
    · have h := h.1 c2
      refine G_go rfl rfl ?_
      refine G_ret rfl rfl ?_
      refine G_go rfl rfl ?_
      refine G_go rfl rfl ?_
      refine G_call rfl rfl ?_
      refine G_go rfl rfl ?_
      refine G_lt rfl rfl (fun c3 => ?_) (fun c3 => ?_)
      · have h := h.1 c3
        refine G_go rfl rfl ?_
        refine G_go rfl rfl ?_
        refine G_ret rfl rfl ?_
        refine G_call rfl rfl ?_
        refine G_go rfl rfl ?_
        refine G_brT rfl rfl rfl ?_
        refine G_go rfl rfl ?_
        refine G_ret rfl rfl ?_
        refine G_go rfl rfl ?_
        refine G_go rfl rfl ?_
        refine G_brF rfl rfl rfl ?_
        refine G_go rfl rfl ?_
        refine G_go rfl rfl ?_
        refine G_call rfl rfl ?_
        refine G_go rfl rfl ?_
        refine G_go rfl rfl ?_
        refine G_go rfl rfl ?_
        refine G_go rfl rfl ?_
        refine G_brF rfl rfl rfl ?_
        refine G_go rfl rfl ?_
        refine G_go rfl rfl ?_
        refine G_rf rfl rfl (by decide) (hR 2 7 119 rfl) ?_
        refine G_go rfl rfl ?_
        refine G_brF rfl rfl rfl ?_
        refine G_go rfl rfl ?_
        refine G_rf rfl rfl (by decide) (hR 2 7 119 rfl) ?_
        refine G_go rfl rfl ?_
        refine G_go rfl rfl ?_
        refine G_ir (n := 7) rfl rfl (by decide) (by decide) (by decide) ?_
        refine G_go rfl rfl ?_
        refine G_go rfl rfl ?_
        refine G_iw (n := 7) rfl rfl (by decide) (by decide) (by decide) ?_
        have hR := refs_up (a := 119) (k := 2) (x := wr ((s 119 2) + 1)) hR rfl
        refine G_go rfl rfl ?_
        refine G_ret rfl rfl ?_
        exact G_ret rfl rfl h
      · have h := h.2 c3
        refine G_go rfl rfl ?_
        refine G_go rfl rfl ?_
        refine G_le rfl rfl (fun c4 => ?_) (fun c4 => ?_)
        · have h := h.1 c4
          refine G_go rfl rfl ?_
          refine G_ret rfl rfl ?_
          refine G_call rfl rfl ?_
          refine G_go rfl rfl ?_
          refine G_brT rfl rfl rfl ?_
          refine G_go rfl rfl ?_
          refine G_ret rfl rfl ?_
          refine G_go rfl rfl ?_
          refine G_go rfl rfl ?_
          refine G_brT rfl rfl rfl ?_
          refine G_go rfl rfl ?_
          refine G_go rfl rfl ?_
          refine G_go rfl rfl ?_
          refine G_go rfl rfl ?_
          refine G_go rfl rfl ?_
          refine G_go rfl rfl ?_
          refine G_go rfl rfl ?_
          refine G_go rfl rfl ?_
          exact h
        · have h := h.2 c4
          refine G_go rfl rfl ?_
          refine G_go rfl rfl ?_
          refine G_ret rfl rfl ?_
          refine G_call rfl rfl ?_
          refine G_go rfl rfl ?_
          refine G_brT rfl rfl rfl ?_
          refine G_go rfl rfl ?_
          refine G_ret rfl rfl ?_
          refine G_go rfl rfl ?_
          refine G_go rfl rfl ?_
          refine G_brF rfl rfl rfl ?_
          refine G_go rfl rfl ?_
          refine G_go rfl rfl ?_
          refine G_call rfl rfl ?_
          refine G_go rfl rfl ?_
          refine G_go rfl rfl ?_
          refine G_go rfl rfl ?_
          refine G_go rfl rfl ?_
          refine G_brF rfl rfl rfl ?_
          refine G_go rfl rfl ?_
          refine G_go rfl rfl ?_
          refine G_rf rfl rfl (by decide) (hR 2 7 119 rfl) ?_
          refine G_go rfl rfl ?_
          refine G_brF rfl rfl rfl ?_
          refine G_go rfl rfl ?_
          refine G_rf rfl rfl (by decide) (hR 2 7 119 rfl) ?_
          refine G_go rfl rfl ?_
          refine G_go rfl rfl ?_
          refine G_ir (n := 7) rfl rfl (by decide) (by decide) (by decide) ?_
          refine G_go rfl rfl ?_
          refine G_go rfl rfl ?_
          refine G_iw (n := 7) rfl rfl (by decide) (by decide) (by decide) ?_
          have hR := refs_up (a := 119) (k := 2) (x := wr ((s 119 2) + 1)) hR rfl
          refine G_go rfl rfl ?_
          refine G_ret rfl rfl ?_
          exact G_ret rfl rfl h
    · have h := h.2 c2
      refine G_go rfl rfl ?_
      refine G_go rfl rfl ?_
      refine G_ret rfl rfl ?_
      refine G_go rfl rfl ?_
      refine G_go rfl rfl ?_
      refine G_call rfl rfl ?_
      refine G_go rfl rfl ?_
      refine G_lt rfl rfl (fun c5 => ?_) (fun c5 => ?_)
      · have h := h.1 c5
        refine G_go rfl rfl ?_
        refine G_go rfl rfl ?_
        refine G_ret rfl rfl ?_
        refine G_call rfl rfl ?_
        refine G_go rfl rfl ?_
        refine G_brF rfl rfl rfl ?_
        refine G_go rfl rfl ?_
        refine G_go rfl rfl ?_
        refine G_ret rfl rfl ?_
        refine G_go rfl rfl ?_
        refine G_go rfl rfl ?_
        refine G_brF rfl rfl rfl ?_
        refine G_go rfl rfl ?_
        refine G_go rfl rfl ?_
        refine G_call rfl rfl ?_
        refine G_go rfl rfl ?_
        refine G_go rfl rfl ?_
        refine G_go rfl rfl ?_
        refine G_go rfl rfl ?_
        refine G_brF rfl rfl rfl ?_
        refine G_go rfl rfl ?_
        refine G_go rfl rfl ?_
        refine G_rf rfl rfl (by decide) (hR 2 7 119 rfl) ?_
        refine G_go rfl rfl ?_
        refine G_brF rfl rfl rfl ?_
        refine G_go rfl rfl ?_
        refine G_rf rfl rfl (by decide) (hR 2 7 119 rfl) ?_
        refine G_go rfl rfl ?_
        refine G_go rfl rfl ?_
        refine G_ir (n := 7) rfl rfl (by decide) (by decide) (by decide) ?_
        refine G_go rfl rfl ?_
        refine G_go rfl rfl ?_
        refine G_iw (n := 7) rfl rfl (by decide) (by decide) (by decide) ?_
        have hR := refs_up (a := 119) (k := 6) (x := wr ((s 119 6) + 1)) hR rfl
        refine G_go rfl rfl ?_
        refine G_ret rfl rfl ?_
        exact G_ret rfl rfl h
      · have h := h.2 c5
        refine G_go rfl rfl ?_
        refine G_go rfl rfl ?_
        refine G_le rfl rfl (fun c6 => ?_) (fun c6 => ?_)
        · have h := h.1 c6
          refine G_go rfl rfl ?_
          refine G_ret rfl rfl ?_
          refine G_call rfl rfl ?_
          refine G_go rfl rfl ?_
          refine G_brF rfl rfl rfl ?_
          refine G_go rfl rfl ?_
          refine G_go rfl rfl ?_
          refine G_ret rfl rfl ?_
          refine G_go rfl rfl ?_
          refine G_go rfl rfl ?_
          refine G_brF rfl rfl rfl ?_
          refine G_go rfl rfl ?_
          refine G_go rfl rfl ?_
          refine G_call rfl rfl ?_
          refine G_go rfl rfl ?_
          refine G_go rfl rfl ?_
          refine G_go rfl rfl ?_
          refine G_go rfl rfl ?_
          refine G_brF rfl rfl rfl ?_
          refine G_go rfl rfl ?_
          refine G_go rfl rfl ?_
          refine G_rf rfl rfl (by decide) (hR 2 7 119 rfl) ?_
          refine G_go rfl rfl ?_
          refine G_brF rfl rfl rfl ?_
          refine G_go rfl rfl ?_
          refine G_rf rfl rfl (by decide) (hR 2 7 119 rfl) ?_
          refine G_go rfl rfl ?_
          refine G_go rfl rfl ?_
          refine G_ir (n := 7) rfl rfl (by decide) (by decide) (by decide) ?_
          refine G_go rfl rfl ?_
          refine G_go rfl rfl ?_
          refine G_iw (n := 7) rfl rfl (by decide) (by decide) (by decide) ?_
          have hR := refs_up (a := 119) (k := 6) (x := wr ((s 119 6) + 1)) hR rfl
          refine G_go rfl rfl ?_
          refine G_ret rfl rfl ?_
          exact G_ret rfl rfl h
        · have h := h.2 c6
          refine G_go rfl rfl ?_
          refine G_go rfl rfl ?_
          refine G_ret rfl rfl ?_
          refine G_call rfl rfl ?_
          refine G_go rfl rfl ?_
          refine G_brF rfl rfl rfl ?_
          refine G_go rfl rfl ?_
          refine G_go rfl rfl ?_
          refine G_ret rfl rfl ?_
          refine G_go rfl rfl ?_
          refine G_go rfl rfl ?_
          refine G_brF rfl rfl rfl ?_
          refine G_go rfl rfl ?_
          refine G_go rfl rfl ?_
          refine G_call rfl rfl ?_
          refine G_go rfl rfl ?_
          refine G_go rfl rfl ?_
          refine G_go rfl rfl ?_
          refine G_go rfl rfl ?_
          refine G_brF rfl rfl rfl ?_
          refine G_go rfl rfl ?_
          refine G_go rfl rfl ?_
          refine G_rf rfl rfl (by decide) (hR 2 7 119 rfl) ?_
          refine G_go rfl rfl ?_
          refine G_brF rfl rfl rfl ?_
          refine G_go rfl rfl ?_
          refine G_rf rfl rfl (by decide) (hR 2 7 119 rfl) ?_
          refine G_go rfl rfl ?_
          refine G_go rfl rfl ?_
          refine G_ir (n := 7) rfl rfl (by decide) (by decide) (by decide) ?_
          refine G_go rfl rfl ?_
          refine G_go rfl rfl ?_
          refine G_iw (n := 7) rfl rfl (by decide) (by decide) (by decide) ?_
          have hR := refs_up (a := 119) (k := 6) (x := wr ((s 119 6) + 1)) hR rfl
          refine G_go rfl rfl ?_
          refine G_ret rfl rfl ?_
          exact G_ret rfl rfl h
  · have h := h.2 c1
    refine G_go rfl rfl ?_
    refine G_ret rfl rfl ?_
    refine G_go rfl rfl ?_
    refine G_go rfl rfl ?_
    refine G_call rfl rfl ?_
    refine G_go rfl rfl ?_
    refine G_lt rfl rfl (fun c7 => ?_) (fun c7 => ?_)
    · have h := h.1 c7
      refine G_go rfl rfl ?_
      refine G_go rfl rfl ?_
      refine G_ret rfl rfl ?_
      refine G_call rfl rfl ?_
      refine G_go rfl rfl ?_
      refine G_brF rfl rfl rfl ?_
      refine G_go rfl rfl ?_
      refine G_go rfl rfl ?_
      refine G_ret rfl rfl ?_
      refine G_go rfl rfl ?_
      refine G_go rfl rfl ?_
      refine G_brF rfl rfl rfl ?_
      refine G_go rfl rfl ?_
      refine G_go rfl rfl ?_
      refine G_call rfl rfl ?_
      refine G_go rfl rfl ?_
      refine G_go rfl rfl ?_
      refine G_go rfl rfl ?_
      refine G_go rfl rfl ?_
      refine G_brF rfl rfl rfl ?_
      refine G_go rfl rfl ?_
      refine G_go rfl rfl ?_
      refine G_rf rfl rfl (by decide) (hR 2 7 119 rfl) ?_
      refine G_go rfl rfl ?_
      refine G_brF rfl rfl rfl ?_
      refine G_go rfl rfl ?_
      refine G_rf rfl rfl (by decide) (hR 2 7 119 rfl) ?_
      refine G_go rfl rfl ?_
      refine G_go rfl rfl ?_
      refine G_ir (n := 7) rfl rfl (by decide) (by decide) (by decide) ?_
      refine G_go rfl rfl ?_
      refine G_go rfl rfl ?_
      refine G_iw (n := 7) rfl rfl (by decide) (by decide) (by decide) ?_
      have hR := refs_up (a := 119) (k := 4) (x := wr ((s 119 4) + 1)) hR rfl
      refine G_go rfl rfl ?_
      refine G_ret rfl rfl ?_
      exact G_ret rfl rfl h
    · have h := h.2 c7
      refine G_go rfl rfl ?_
      refine G_go rfl rfl ?_
      refine G_le rfl rfl (fun c8 => ?_) (fun c8 => ?_)
      · have h := h.1 c8
        refine G_go rfl rfl ?_
        refine G_ret rfl rfl ?_
        refine G_call rfl rfl ?_
        refine G_go rfl rfl ?_
        refine G_brF rfl rfl rfl ?_
        refine G_go rfl rfl ?_
        refine G_go rfl rfl ?_
        refine G_ret rfl rfl ?_
        refine G_go rfl rfl ?_
        refine G_go rfl rfl ?_
        refine G_brF rfl rfl rfl ?_
        refine G_go rfl rfl ?_
        refine G_go rfl rfl ?_
        refine G_call rfl rfl ?_
        refine G_go rfl rfl ?_
        refine G_go rfl rfl ?_
        refine G_go rfl rfl ?_
        refine G_go rfl rfl ?_
        refine G_brF rfl rfl rfl ?_
        refine G_go rfl rfl ?_
        refine G_go rfl rfl ?_
        refine G_rf rfl rfl (by decide) (hR 2 7 119 rfl) ?_
        refine G_go rfl rfl ?_
        refine G_brF rfl rfl rfl ?_
        refine G_go rfl rfl ?_
        refine G_rf rfl rfl (by decide) (hR 2 7 119 rfl) ?_
        refine G_go rfl rfl ?_
        refine G_go rfl rfl ?_
        refine G_ir (n := 7) rfl rfl (by decide) (by decide) (by decide) ?_
        refine G_go rfl rfl ?_
        refine G_go rfl rfl ?_
        refine G_iw (n := 7) rfl rfl (by decide) (by decide) (by decide) ?_
        have hR := refs_up (a := 119) (k := 4) (x := wr ((s 119 4) + 1)) hR rfl
        refine G_go rfl rfl ?_
        refine G_ret rfl rfl ?_
        exact G_ret rfl rfl h
      · have h := h.2 c8
        refine G_go rfl rfl ?_
        refine G_go rfl rfl ?_
        refine G_ret rfl rfl ?_
        refine G_call rfl rfl ?_
        refine G_go rfl rfl ?_
        refine G_brF rfl rfl rfl ?_
        refine G_go rfl rfl ?_
        refine G_go rfl rfl ?_
        refine G_ret rfl rfl ?_
        refine G_go rfl rfl ?_
        refine G_go rfl rfl ?_
        refine G_brF rfl rfl rfl ?_
        refine G_go rfl rfl ?_
        refine G_go rfl rfl ?_
        refine G_call rfl rfl ?_
        refine G_go rfl rfl ?_
        refine G_go rfl rfl ?_
        refine G_go rfl rfl ?_
        refine G_go rfl rfl ?_
        refine G_brF rfl rfl rfl ?_
        refine G_go rfl rfl ?_
        refine G_go rfl rfl ?_
        refine G_rf rfl rfl (by decide) (hR 2 7 119 rfl) ?_
        refine G_go rfl rfl ?_
        refine G_brF rfl rfl rfl ?_
        refine G_go rfl rfl ?_
        refine G_rf rfl rfl (by decide) (hR 2 7 119 rfl) ?_
        refine G_go rfl rfl ?_
        refine G_go rfl rfl ?_
        refine G_ir (n := 7) rfl rfl (by decide) (by decide) (by decide) ?_
        refine G_go rfl rfl ?_
        refine G_go rfl rfl ?_
        refine G_iw (n := 7) rfl rfl (by decide) (by decide) (by decide) ?_
        have hR := refs_up (a := 119) (k := 4) (x := wr ((s 119 4) + 1)) hR rfl
        refine G_go rfl rfl ?_
        refine G_ret rfl rfl ?_
        exact G_ret rfl rfl h
theorem sb_X6_tax_39 (n : Nat) (s : Nat → Nat → Int) (Q : List Vl → Sto → Prop) (x1 : Int) (x2 : Int) (x3 : Int) (x4 : Int) (x5 : Int) (x6 : Int) (x7 : Int) (w8 : Vl) (hR : refs s)
    (h : (s 3 9 ≤ x7 → (x2 ≠ 0 → Q [(1, x5)] (n, s)) ∧ (x2 = 0 → Q [(1, x4)] (n, s))) ∧ (x7 < s 3 9 → (0 ≤ x7 ∧ x7 < 6) ∧ ((rgP (vw 4 s) x7.toNat) ∧ ((0 ≤ s 6 x7.toNat ∧ s 6 x7.toNat ≤ 2000) ∧ ((wr (x1 * (bnV (vw 4 s) x7.toNat (s 6 x7.toNat))) ≤ x6 → G 2 120 126 39 [(3, 2), (1, x1), (1, x2), (1, x3), (1, wr (x4 + (wr (x1 * (bnV (vw 4 s) x7.toNat (s 6 x7.toNat)))))), (1, x5), (1, x6), (1, wr (x7 + 1)), (1, wr (x1 * (bnV (vw 4 s) x7.toNat (s 6 x7.toNat))))] [] (n, s) Q) ∧ (x6 < wr (x1 * (bnV (vw 4 s) x7.toNat (s 6 x7.toNat))) → G 2 120 126 39 [(3, 2), (1, x1), (1, x2), (1, x3), (1, wr (x4 + (wr (x1 * (bnV (vw 4 s) x7.toNat (s 6 x7.toNat)))))), (1, x7), (1, wr (x1 * (bnV (vw 4 s) x7.toNat (s 6 x7.toNat)))), (1, wr (x7 + 1)), (1, wr (x1 * (bnV (vw 4 s) x7.toNat (s 6 x7.toNat))))] [] (n, s) Q)))))) :
    G 2 120 126 39 [(3, 2), (1, x1), (1, x2), (1, x3), (1, x4), (1, x5), (1, x6), (1, x7), w8] [] (n, s) Q := by
  refine G_go rfl rfl ?_
  refine G_go rfl rfl ?_
  refine G_rf rfl rfl (by decide) (hR 2 0 3 rfl) ?_
  refine G_rd rfl rfl (by decide) ?_
  refine G_ge rfl rfl (fun c1 => ?_) (fun c1 => ?_)
  · have h := h.1 c1
    refine G_go rfl rfl ?_
    refine G_ne rfl rfl (fun c2 => ?_) (fun c2 => ?_)
    · have h := h.1 c2
      refine G_go rfl rfl ?_
      exact G_ret rfl rfl h
    · have h := h.2 c2
      refine G_go rfl rfl ?_
      refine G_go rfl rfl ?_
      exact G_ret rfl rfl h
  · have h := h.2 c1
    refine G_go rfl rfl ?_
    refine G_go rfl rfl ?_
    refine G_rf rfl rfl (by decide) (hR 2 0 3 rfl) ?_
    refine G_go rfl rfl ?_
    refine G_call rfl rfl ?_
    refine G_go rfl rfl ?_
    refine G_go rfl rfl ?_
    refine G_go rfl rfl ?_
    refine G_rf rfl rfl (by decide) (hR 3 2 6 rfl) ?_
    refine G_go rfl rfl ?_
    obtain ⟨g3, h⟩ := h
    refine G_ir (n := 6) rfl rfl (by decide) (by decide) g3 ?_
    refine G_call rfl rfl ?_
    obtain ⟨g4, h⟩ := h
    obtain ⟨g5, h⟩ := h
    refine c_X5_burnsHolding_3 n _ _ x7 (s 6 x7.toNat) hR g3 g4 g5 ?_
    refine G_ret rfl rfl ?_
    refine G_go rfl rfl ?_
    refine G_go rfl rfl ?_
    refine G_go rfl rfl ?_
    refine G_go rfl rfl ?_
    refine G_go rfl rfl ?_
    refine G_go rfl rfl ?_
    refine G_go rfl rfl ?_
    refine G_go rfl rfl ?_
    refine G_le rfl rfl (fun c6 => ?_) (fun c6 => ?_)
    · have h := h.1 c6
      refine G_go rfl rfl ?_
      refine G_go rfl rfl ?_
      exact h
    · have h := h.2 c6
      refine G_go rfl rfl ?_
      refine G_go rfl rfl ?_
      refine G_go rfl rfl ?_
      refine G_go rfl rfl ?_
      refine G_go rfl rfl ?_
      refine G_go rfl rfl ?_
      exact h
theorem sb_X7_tax_0 (n : Nat) (s : Nat → Nat → Int) (Q : List Vl → Sto → Prop) (a0 : Int) (a1 : Int) (hR : refs s)
    (h : (0 ≤ a0 → (a0 ≤ 9 → (a1 < 0 → Q [(1, (-2))] (n, upS (upS s 120 10 0) 129 2 (wr ((s 129 2) + 1)))) ∧ (a1 ≥ 0 → (a1 > 1 → Q [(1, (-2))] (n, upS (upS s 120 10 0) 129 2 (wr ((s 129 2) + 1)))) ∧ (a1 ≤ 1 → G 120 140 217 38 [(3, 120), (1, a0), (1, a1), (1, 0), (1, 0), (1, (-9)), (1, 0)] [] (n, upS s 120 10 0) Q))) ∧ (9 < a0 → Q [(1, (-6))] (n, upS (upS s 120 10 0) 129 6 (wr ((s 129 6) + 1))))) ∧ (a0 < 0 → Q [(1, (-4))] (n, upS (upS s 120 10 0) 129 4 (wr ((s 129 4) + 1))))) :
    G 120 140 217 0 [(3, 120), (1, a0), (1, a1), (0, 0), (0, 0), (0, 0), (0, 0)] [] (n, s) Q := by
  refine G_go rfl rfl ?_
  refine G_go rfl rfl ?_
  refine G_wr rfl rfl (by decide) ?_
  have hR := refs_up (a := 120) (k := 10) (x := 0) hR rfl
  refine G_go rfl rfl ?_
  refine G_go rfl rfl ?_
  refine G_go rfl rfl ?_
  refine G_call rfl rfl ?_
  refine G_go rfl rfl ?_
  refine G_go rfl rfl ?_
  refine G_ge rfl rfl (fun c1 => ?_) (fun c1 => ?_)
  · have h := h.1 c1
    refine G_go rfl rfl ?_
    refine G_go rfl rfl ?_
    refine G_le rfl rfl (fun c2 => ?_) (fun c2 => ?_)
    · have h := h.1 c2
      refine G_go rfl rfl ?_
      refine G_ret rfl rfl ?_
      refine G_go rfl rfl ?_
      refine G_go rfl rfl ?_
      refine G_call rfl rfl ?_
      refine G_go rfl rfl ?_
      refine G_brF rfl rfl rfl ?_
      refine G_go rfl rfl ?_
      refine G_go rfl rfl ?_
      refine G_go rfl rfl ?_
      refine G_go rfl rfl ?_
      refine G_go rfl rfl ?_
      refine G_call rfl rfl ?_
      refine G_go rfl rfl ?_
      refine G_go rfl rfl ?_
      refine G_go rfl rfl ?_
      refine G_lt rfl rfl (fun c3 => ?_) (fun c3 => ?_)
      · have c3 := xl_lt c3
        have h := h.1 c3
        refine G_go rfl rfl ?_
        refine G_ret rfl rfl ?_
        refine G_brF rfl rfl rfl ?_
        refine G_go rfl rfl ?_
        refine G_go rfl rfl ?_
        refine G_ret rfl rfl ?_
        refine G_go rfl rfl ?_
        refine G_go rfl rfl ?_
        refine G_brF rfl rfl rfl ?_
        refine G_go rfl rfl ?_
        refine G_go rfl rfl ?_
        refine G_call rfl rfl ?_
        refine G_go rfl rfl ?_
        refine G_rf rfl rfl (by decide) (hR 120 11 129 rfl) ?_
        refine G_go rfl rfl ?_
        refine G_go rfl rfl ?_
        refine G_go rfl rfl ?_
        refine G_ir (n := 7) rfl rfl (by decide) (by decide) (by decide) ?_
        refine G_go rfl rfl ?_
        refine G_go rfl rfl ?_
        refine G_iw (n := 7) rfl rfl (by decide) (by decide) (by decide) ?_
        have hR := refs_up (a := 129) (k := 2) (x := wr ((s 129 2) + 1)) hR rfl
        refine G_go rfl rfl ?_
        refine G_ret rfl rfl ?_
        exact G_ret rfl rfl h
      · have c3 := xl_ge c3
        have h := h.2 c3
        refine G_go rfl rfl ?_
        refine G_go rfl rfl ?_
        refine G_go rfl rfl ?_
        refine G_gt rfl rfl (fun c4 => ?_) (fun c4 => ?_)
        · have c4 := xl_gt c4
          have h := h.1 c4
          refine G_go rfl rfl ?_
          refine G_ret rfl rfl ?_
          refine G_brF rfl rfl rfl ?_
          refine G_go rfl rfl ?_
          refine G_go rfl rfl ?_
          refine G_ret rfl rfl ?_
          refine G_go rfl rfl ?_
          refine G_go rfl rfl ?_
          refine G_brF rfl rfl rfl ?_
          refine G_go rfl rfl ?_
          refine G_go rfl rfl ?_
          refine G_call rfl rfl ?_
          refine G_go rfl rfl ?_
          refine G_rf rfl rfl (by decide) (hR 120 11 129 rfl) ?_
          refine G_go rfl rfl ?_
          refine G_go rfl rfl ?_
          refine G_go rfl rfl ?_
          refine G_ir (n := 7) rfl rfl (by decide) (by decide) (by decide) ?_
          refine G_go rfl rfl ?_
          refine G_go rfl rfl ?_
          refine G_iw (n := 7) rfl rfl (by decide) (by decide) (by decide) ?_
          have hR := refs_up (a := 129) (k := 2) (x := wr ((s 129 2) + 1)) hR rfl
          refine G_go rfl rfl ?_
          refine G_ret rfl rfl ?_
          exact G_ret rfl rfl h
        · have c4 := xl_le c4
          have h := h.2 c4
          refine G_go rfl rfl ?_
          refine G_go rfl rfl ?_
          refine G_ret rfl rfl ?_
          refine G_brT rfl rfl rfl ?_
          refine G_go rfl rfl ?_
          refine G_ret rfl rfl ?_
          refine G_go rfl rfl ?_
          refine G_go rfl rfl ?_
          refine G_brT rfl rfl rfl ?_
          refine G_go rfl rfl ?_
          refine G_go rfl rfl ?_
          refine G_go rfl rfl ?_
          refine G_go rfl rfl ?_
          refine G_go rfl rfl ?_
          refine G_go rfl rfl ?_
          exact h
    · have h := h.2 c2
      refine G_go rfl rfl ?_
      refine G_go rfl rfl ?_
      refine G_ret rfl rfl ?_
      refine G_go rfl rfl ?_
      refine G_go rfl rfl ?_
      refine G_call rfl rfl ?_
      refine G_go rfl rfl ?_
      refine G_brT rfl rfl rfl ?_
      refine G_go rfl rfl ?_
      refine G_ret rfl rfl ?_
      refine G_go rfl rfl ?_
      refine G_go rfl rfl ?_
      refine G_brF rfl rfl rfl ?_
      refine G_go rfl rfl ?_
      refine G_go rfl rfl ?_
      refine G_call rfl rfl ?_
      refine G_go rfl rfl ?_
      refine G_rf rfl rfl (by decide) (hR 120 11 129 rfl) ?_
      refine G_go rfl rfl ?_
      refine G_go rfl rfl ?_
      refine G_go rfl rfl ?_
      refine G_ir (n := 7) rfl rfl (by decide) (by decide) (by decide) ?_
      refine G_go rfl rfl ?_
      refine G_go rfl rfl ?_
      refine G_iw (n := 7) rfl rfl (by decide) (by decide) (by decide) ?_
      have hR := refs_up (a := 129) (k := 6) (x := wr ((s 129 6) + 1)) hR rfl
      refine G_go rfl rfl ?_
      refine G_ret rfl rfl ?_
      exact G_ret rfl rfl h
  · have h := h.2 c1
    refine G_go rfl rfl ?_
    refine G_go rfl rfl ?_
    refine G_ret rfl rfl ?_
    refine G_go rfl rfl ?_
    refine G_go rfl rfl ?_
    refine G_call rfl rfl ?_
    refine G_go rfl rfl ?_
    refine G_brT rfl rfl rfl ?_
    refine G_go rfl rfl ?_
    refine G_ret rfl rfl ?_
    refine G_go rfl rfl ?_
    refine G_go rfl rfl ?_
    refine G_brF rfl rfl rfl ?_
    refine G_go rfl rfl ?_
    refine G_go rfl rfl ?_
    refine G_call rfl rfl ?_
    refine G_go rfl rfl ?_
    refine G_rf rfl rfl (by decide) (hR 120 11 129 rfl) ?_
    refine G_go rfl rfl ?_
    refine G_go rfl rfl ?_
    refine G_go rfl rfl ?_
    refine G_ir (n := 7) rfl rfl (by decide) (by decide) (by decide) ?_
    refine G_go rfl rfl ?_
    refine G_go rfl rfl ?_
    refine G_iw (n := 7) rfl rfl (by decide) (by decide) (by decide) ?_
    have hR := refs_up (a := 129) (k := 4) (x := wr ((s 129 4) + 1)) hR rfl
    refine G_go rfl rfl ?_
    refine G_ret rfl rfl ?_
    exact G_ret rfl rfl h
theorem sb_X7_tax_38 (n : Nat) (s : Nat → Nat → Int) (Q : List Vl → Sto → Prop) (x1 : Int) (x2 : Int) (x3 : Int) (x4 : Int) (x5 : Int) (x6 : Int) (hR : refs s)
    (h : (s 120 0 ≤ x6 → (x2 ≠ 0 → Q [(1, x5)] (n, s)) ∧ (x2 = 0 → Q [(1, x4)] (n, s))) ∧ (x6 < s 120 0 → (0 ≤ x6 ∧ x6 < 6) ∧ ((rgP (vw 121 s) x6.toNat) ∧ ((0 ≤ vw 121 s 2 x6.toNat ∧ vw 121 s 2 x6.toNat ≤ 2000) ∧ ((x5 < 0 → G 120 140 217 38 [(3, 120), (1, x1), (1, x2), (1, x3), (1, wr (x4 + (wr (x1 * (bnW (vw 121 s) x6.toNat))))), (1, x6), (1, wr (x6 + 1))] [] (n, s) Q) ∧ (0 ≤ x5 → (0 ≤ x5 ∧ x5 < 6) ∧ ((rgP (vw 121 s) x5.toNat) ∧ ((0 ≤ vw 121 s 2 x5.toNat ∧ vw 121 s 2 x5.toNat ≤ 2000) ∧ ((wr (x1 * (bnW (vw 121 s) x6.toNat)) ≤ wr (x1 * (bnW (vw 121 s) x5.toNat)) → G 120 140 217 38 [(3, 120), (1, x1), (1, x2), (1, x3), (1, wr (x4 + (wr (x1 * (bnW (vw 121 s) x6.toNat))))), (1, x5), (1, wr (x6 + 1))] [] (n, s) Q) ∧ (wr (x1 * (bnW (vw 121 s) x5.toNat)) < wr (x1 * (bnW (vw 121 s) x6.toNat)) → G 120 140 217 38 [(3, 120), (1, x1), (1, x2), (1, x3), (1, wr (x4 + (wr (x1 * (bnW (vw 121 s) x6.toNat))))), (1, x6), (1, wr (x6 + 1))] [] (n, s) Q)))))))))) :
    G 120 140 217 38 [(3, 120), (1, x1), (1, x2), (1, x3), (1, x4), (1, x5), (1, x6)] [] (n, s) Q := by
  refine G_go rfl rfl ?_
  refine G_go rfl rfl ?_
  refine G_rd rfl rfl (by decide) ?_
  refine G_ge rfl rfl (fun c1 => ?_) (fun c1 => ?_)
  · have h := h.1 c1
    refine G_go rfl rfl ?_
    refine G_ne rfl rfl (fun c2 => ?_) (fun c2 => ?_)
    · have h := h.1 c2
      refine G_go rfl rfl ?_
      exact G_ret rfl rfl h
    · have h := h.2 c2
      refine G_go rfl rfl ?_
      refine G_go rfl rfl ?_
      exact G_ret rfl rfl h
  · have h := h.2 c1
    refine G_go rfl rfl ?_
    refine G_go rfl rfl ?_
    refine G_go rfl rfl ?_
    refine G_go rfl rfl ?_
    refine G_call rfl rfl ?_
    obtain ⟨g3, h⟩ := h
    obtain ⟨g4, h⟩ := h
    obtain ⟨g5, h⟩ := h
    refine c_X7_burnsOf n _ _ x6 hR g3 g4 g5 ?_
    refine G_go rfl rfl ?_
    refine G_go rfl rfl ?_
    refine G_go rfl rfl ?_
    refine G_go rfl rfl ?_
    refine G_lt rfl rfl (fun c6 => ?_) (fun c6 => ?_)
    · have h := h.1 c6
      refine G_go rfl rfl ?_
      refine G_go rfl rfl ?_
      refine G_go rfl rfl ?_
      refine G_go rfl rfl ?_
      refine G_go rfl rfl ?_
      exact h
    · have h := h.2 c6
      refine G_go rfl rfl ?_
      refine G_go rfl rfl ?_
      refine G_go rfl rfl ?_
      refine G_call rfl rfl ?_
      refine c_X7_burnsOf n _ _ x6 hR g3 g4 g5 ?_
      refine G_go rfl rfl ?_
      refine G_go rfl rfl ?_
      refine G_go rfl rfl ?_
      refine G_go rfl rfl ?_
      refine G_call rfl rfl ?_
      obtain ⟨g7, h⟩ := h
      obtain ⟨g8, h⟩ := h
      obtain ⟨g9, h⟩ := h
      refine c_X7_burnsOf n _ _ x5 hR g7 g8 g9 ?_
      refine G_go rfl rfl ?_
      refine G_le rfl rfl (fun c10 => ?_) (fun c10 => ?_)
      · have h := h.1 c10
        refine G_go rfl rfl ?_
        refine G_go rfl rfl ?_
        refine G_go rfl rfl ?_
        refine G_go rfl rfl ?_
        exact h
      · have h := h.2 c10
        refine G_go rfl rfl ?_
        refine G_go rfl rfl ?_
        refine G_go rfl rfl ?_
        refine G_go rfl rfl ?_
        refine G_go rfl rfl ?_
        exact h
theorem sb_X6_relay_0 (n : Nat) (s : Nat → Nat → Int) (Q : List Vl → Sto → Prop) (a0 : Int) (hR : refs s)
    (h : (a0 < 0 → Q [(1, (-2))] (n, upS s 119 2 (wr ((s 119 2) + 1)))) ∧ (0 ≤ a0 → (a0 ≤ 1 → G 2 120 117 24 [(3, 2), (1, a0), (1, 0), (1, 0), (1, 0), (1, 0)] [] (n, s) Q) ∧ (1 < a0 → Q [(1, (-2))] (n, upS s 119 2 (wr ((s 119 2) + 1)))))) :
    G 2 120 117 0 [(3, 2), (1, a0), (0, 0), (0, 0), (0, 0), (0, 0)] [] (n, s) Q := by
  refine G_go rfl rfl ?_
  refine G_go rfl rfl ?_
  refine G_call rfl rfl ?_
  refine G_go rfl rfl ?_
  refine G_lt rfl rfl (fun c1 => ?_) (fun c1 => ?_)
  · have h := h.1 c1
    refine G_go rfl rfl ?_
    refine G_go rfl rfl ?_
    refine G_ret rfl rfl ?_
    refine G_go rfl rfl ?_
    refine G_go rfl rfl ?_
    refine G_brF rfl rfl rfl ?_
    refine G_go rfl rfl ?_
    refine G_go rfl rfl ?_
    refine G_call rfl rfl ?_
    refine G_go rfl rfl ?_
    refine G_go rfl rfl ?_
    refine G_go rfl rfl ?_
    refine G_go rfl rfl ?_
    refine G_brF rfl rfl rfl ?_
    refine G_go rfl rfl ?_
    refine G_go rfl rfl ?_
    refine G_rf rfl rfl (by decide) (hR 2 7 119 rfl) ?_
    refine G_go rfl rfl ?_
    refine G_brF rfl rfl rfl ?_
    refine G_go rfl rfl ?_
    refine G_rf rfl rfl (by decide) (hR 2 7 119 rfl) ?_
    refine G_go rfl rfl ?_
    refine G_go rfl rfl ?_
    refine G_ir (n := 7) rfl rfl (by decide) (by decide) (by decide) ?_
    refine G_go rfl rfl ?_
    refine G_go rfl rfl ?_
    refine G_iw (n := 7) rfl rfl (by decide) (by decide) (by decide) ?_
    have hR := refs_up (a := 119) (k := 2) (x := wr ((s 119 2) + 1)) hR rfl
    refine G_go rfl rfl ?_
    refine G_ret rfl rfl ?_
    exact G_ret rfl rfl h
  · have h := h.2 c1
    refine G_go rfl rfl ?_
    refine G_go rfl rfl ?_
    refine G_le rfl rfl (fun c2 => ?_) (fun c2 => ?_)
    · have h := h.1 c2
      refine G_go rfl rfl ?_
      refine G_ret rfl rfl ?_
      refine G_go rfl rfl ?_
      refine G_go rfl rfl ?_
      refine G_brT rfl rfl rfl ?_
      refine G_go rfl rfl ?_
      refine G_go rfl rfl ?_
      refine G_go rfl rfl ?_
      refine G_go rfl rfl ?_
      refine G_go rfl rfl ?_
      refine G_go rfl rfl ?_
      exact h
    · have h := h.2 c2
      refine G_go rfl rfl ?_
      refine G_go rfl rfl ?_
      refine G_ret rfl rfl ?_
      refine G_go rfl rfl ?_
      refine G_go rfl rfl ?_
      refine G_brF rfl rfl rfl ?_
      refine G_go rfl rfl ?_
      refine G_go rfl rfl ?_
      refine G_call rfl rfl ?_
      refine G_go rfl rfl ?_
      refine G_go rfl rfl ?_
      refine G_go rfl rfl ?_
      refine G_go rfl rfl ?_
      refine G_brF rfl rfl rfl ?_
      refine G_go rfl rfl ?_
      refine G_go rfl rfl ?_
      refine G_rf rfl rfl (by decide) (hR 2 7 119 rfl) ?_
      refine G_go rfl rfl ?_
      refine G_brF rfl rfl rfl ?_
      refine G_go rfl rfl ?_
      refine G_rf rfl rfl (by decide) (hR 2 7 119 rfl) ?_
      refine G_go rfl rfl ?_
      refine G_go rfl rfl ?_
      refine G_ir (n := 7) rfl rfl (by decide) (by decide) (by decide) ?_
      refine G_go rfl rfl ?_
      refine G_go rfl rfl ?_
      refine G_iw (n := 7) rfl rfl (by decide) (by decide) (by decide) ?_
      have hR := refs_up (a := 119) (k := 2) (x := wr ((s 119 2) + 1)) hR rfl
      refine G_go rfl rfl ?_
      refine G_ret rfl rfl ?_
      exact G_ret rfl rfl h
theorem sb_X6_relay_24 (n : Nat) (s : Nat → Nat → Int) (Q : List Vl → Sto → Prop) (x1 : Int) (x2 : Int) (x3 : Int) (x4 : Int) (x5 : Int) (hR : refs s)
    (h : (s 3 9 ≤ x5 → (x1 ≠ 0 → Q [(1, min (xdiv x3 2) (wr (x3 - x4)))] (n, s)) ∧ (x1 = 0 → Q [(1, x3)] (n, s))) ∧ (x5 < s 3 9 → (0 ≤ x5 ∧ x5 < 6) ∧ ((rgP (vw 4 s) x5.toNat) ∧ ((0 ≤ s 6 x5.toNat ∧ s 6 x5.toNat ≤ 2000) ∧ ((0 ≤ vw 4 s 4 x5.toNat ∧ vw 4 s 4 x5.toNat ≤ 99) ∧ (G 2 120 117 24 [(3, 2), (1, x1), (1, x2), (1, wr (x3 + (lsV (vw 4 s) x5.toNat (s 6 x5.toNat)))), (1, max x4 (lsV (vw 4 s) x5.toNat (s 6 x5.toNat))), (1, wr (x5 + 1))] [] (n, s) Q)))))) :
    G 2 120 117 24 [(3, 2), (1, x1), (1, x2), (1, x3), (1, x4), (1, x5)] [] (n, s) Q := by
  refine G_go rfl rfl ?_
  refine G_go rfl rfl ?_
  refine G_rf rfl rfl (by decide) (hR 2 0 3 rfl) ?_
  refine G_rd rfl rfl (by decide) ?_
  refine G_ge rfl rfl (fun c1 => ?_) (fun c1 => ?_)
  · have h := h.1 c1
    refine G_go rfl rfl ?_
    refine G_ne rfl rfl (fun c2 => ?_) (fun c2 => ?_)
    · have h := h.1 c2
      refine G_go rfl rfl ?_
      refine G_go rfl rfl ?_
      refine G_go rfl rfl ?_
      refine G_go rfl rfl ?_
      refine G_go rfl rfl ?_
      refine G_go rfl rfl ?_
      refine G_min rfl rfl ?_
      exact G_ret rfl rfl h
    · have h := h.2 c2
      refine G_go rfl rfl ?_
      refine G_go rfl rfl ?_
      exact G_ret rfl rfl h
  · have h := h.2 c1
    refine G_go rfl rfl ?_
    refine G_go rfl rfl ?_
    refine G_rf rfl rfl (by decide) (hR 2 0 3 rfl) ?_
    refine G_go rfl rfl ?_
    refine G_call rfl rfl ?_
    refine G_go rfl rfl ?_
    refine G_go rfl rfl ?_
    refine G_go rfl rfl ?_
    refine G_rf rfl rfl (by decide) (hR 3 2 6 rfl) ?_
    refine G_go rfl rfl ?_
    obtain ⟨g3, h⟩ := h
    refine G_ir (n := 6) rfl rfl (by decide) (by decide) g3 ?_
    refine G_call rfl rfl ?_
    obtain ⟨g4, h⟩ := h
    obtain ⟨g5, h⟩ := h
    obtain ⟨g6, h⟩ := h
    refine c_X5_lastsHolding_3 n _ _ x5 (s 6 x5.toNat) hR g3 g4 g5 g6 ?_
    refine G_ret rfl rfl ?_
    refine G_go rfl rfl ?_
    refine G_go rfl rfl ?_
    refine G_go rfl rfl ?_
    refine G_go rfl rfl ?_
    refine G_rf rfl rfl (by decide) (hR 2 0 3 rfl) ?_
    refine G_go rfl rfl ?_
    refine G_call rfl rfl ?_
    refine G_go rfl rfl ?_
    refine G_go rfl rfl ?_
    refine G_go rfl rfl ?_
    refine G_rf rfl rfl (by decide) (hR 3 2 6 rfl) ?_
    refine G_go rfl rfl ?_
    refine G_ir (n := 6) rfl rfl (by decide) (by decide) g3 ?_
    refine G_call rfl rfl ?_
    refine c_X5_lastsHolding_3 n _ _ x5 (s 6 x5.toNat) hR g3 g4 g5 g6 ?_
    refine G_ret rfl rfl ?_
    refine G_max rfl rfl ?_
    refine G_go rfl rfl ?_
    refine G_go rfl rfl ?_
    refine G_go rfl rfl ?_
    exact h
theorem sb_X7_relay_0 (n : Nat) (s : Nat → Nat → Int) (Q : List Vl → Sto → Prop) (a0 : Int) (hR : refs s)
    (h : (a0 < 0 → Q [(1, (-2))] (n, upS (upS s 120 10 0) 129 2 (wr ((s 129 2) + 1)))) ∧ (a0 ≥ 0 → (a0 > 1 → Q [(1, (-2))] (n, upS (upS s 120 10 0) 129 2 (wr ((s 129 2) + 1)))) ∧ (a0 ≤ 1 → G 120 140 208 26 [(3, 120), (1, a0), (1, 0), (1, 0)] [] (n, upS s 120 10 0) Q))) :
    G 120 140 208 0 [(3, 120), (1, a0), (0, 0), (0, 0)] [] (n, s) Q := by
  refine G_go rfl rfl ?_
  refine G_go rfl rfl ?_
  refine G_wr rfl rfl (by decide) ?_
  have hR := refs_up (a := 120) (k := 10) (x := 0) hR rfl
  refine G_go rfl rfl ?_
  refine G_go rfl rfl ?_
  refine G_go rfl rfl ?_
  refine G_go rfl rfl ?_
  refine G_call rfl rfl ?_
  refine G_go rfl rfl ?_
  refine G_go rfl rfl ?_
  refine G_go rfl rfl ?_
  refine G_lt rfl rfl (fun c1 => ?_) (fun c1 => ?_)
  · have c1 := xl_lt c1
    have h := h.1 c1
    refine G_go rfl rfl ?_
    refine G_ret rfl rfl ?_
    refine G_brF rfl rfl rfl ?_
    refine G_go rfl rfl ?_
    refine G_go rfl rfl ?_
    refine G_call rfl rfl ?_
    refine G_go rfl rfl ?_
    refine G_rf rfl rfl (by decide) (hR 120 11 129 rfl) ?_
    refine G_go rfl rfl ?_
    refine G_go rfl rfl ?_
    refine G_go rfl rfl ?_
    refine G_ir (n := 7) rfl rfl (by decide) (by decide) (by decide) ?_
    refine G_go rfl rfl ?_
    refine G_go rfl rfl ?_
    refine G_iw (n := 7) rfl rfl (by decide) (by decide) (by decide) ?_
    have hR := refs_up (a := 129) (k := 2) (x := wr ((s 129 2) + 1)) hR rfl
    refine G_go rfl rfl ?_
    refine G_ret rfl rfl ?_
    exact G_ret rfl rfl h
  · have c1 := xl_ge c1
    have h := h.2 c1
    refine G_go rfl rfl ?_
    refine G_go rfl rfl ?_
    refine G_go rfl rfl ?_
    refine G_gt rfl rfl (fun c2 => ?_) (fun c2 => ?_)
    · have c2 := xl_gt c2
      have h := h.1 c2
      refine G_go rfl rfl ?_
      refine G_ret rfl rfl ?_
      refine G_brF rfl rfl rfl ?_
      refine G_go rfl rfl ?_
      refine G_go rfl rfl ?_
      refine G_call rfl rfl ?_
      refine G_go rfl rfl ?_
      refine G_rf rfl rfl (by decide) (hR 120 11 129 rfl) ?_
      refine G_go rfl rfl ?_
      refine G_go rfl rfl ?_
      refine G_go rfl rfl ?_
      refine G_ir (n := 7) rfl rfl (by decide) (by decide) (by decide) ?_
      refine G_go rfl rfl ?_
      refine G_go rfl rfl ?_
      refine G_iw (n := 7) rfl rfl (by decide) (by decide) (by decide) ?_
      have hR := refs_up (a := 129) (k := 2) (x := wr ((s 129 2) + 1)) hR rfl
      refine G_go rfl rfl ?_
      refine G_ret rfl rfl ?_
      exact G_ret rfl rfl h
    · have c2 := xl_le c2
      have h := h.2 c2
      refine G_go rfl rfl ?_
      refine G_go rfl rfl ?_
      refine G_ret rfl rfl ?_
      refine G_brT rfl rfl rfl ?_
      refine G_go rfl rfl ?_
      refine G_go rfl rfl ?_
      refine G_go rfl rfl ?_
      refine G_go rfl rfl ?_
      exact h
theorem sb_X7_relay_26 (n : Nat) (s : Nat → Nat → Int) (Q : List Vl → Sto → Prop) (x1 : Int) (x2 : Int) (x3 : Int) (hR : refs s)
    (h : (s 120 0 ≤ x3 → G 120 140 195 0 [(3, 120), (0, 0), (0, 0)] [] (n, s) (fun r s1 => G 120 140 208 52 [(3, 120), (1, x1), (1, x2), (1, x3)] (r ++ []) s1 Q)) ∧ (x3 < s 120 0 → (0 ≤ x3 ∧ x3 < 6) ∧ ((rgP (vw 121 s) x3.toNat) ∧ ((0 ≤ vw 121 s 2 x3.toNat ∧ vw 121 s 2 x3.toNat ≤ 2000) ∧ ((0 ≤ vw 121 s 4 x3.toNat ∧ vw 121 s 4 x3.toNat ≤ 99) ∧ (G 120 140 208 26 [(3, 120), (1, x1), (1, wr (x2 + (lsW (vw 121 s) x3.toNat))), (1, wr (x3 + 1))] [] (n, s) Q)))))) :
    G 120 140 208 26 [(3, 120), (1, x1), (1, x2), (1, x3)] [] (n, s) Q := by
  refine G_go rfl rfl ?_
  refine G_go rfl rfl ?_
  refine G_rd rfl rfl (by decide) ?_
  refine G_ge rfl rfl (fun c1 => ?_) (fun c1 => ?_)
  · have h := h.1 c1
    refine G_go rfl rfl ?_
    exact G_call rfl rfl h
  · have h := h.2 c1
    refine G_go rfl rfl ?_
    refine G_go rfl rfl ?_
    refine G_go rfl rfl ?_
    refine G_call rfl rfl ?_
    obtain ⟨g2, h⟩ := h
    obtain ⟨g3, h⟩ := h
    obtain ⟨g4, h⟩ := h
    obtain ⟨g5, h⟩ := h
    refine c_X7_lastsOf n _ _ x3 hR g2 g3 g4 g5 ?_
    refine G_go rfl rfl ?_
    refine G_go rfl rfl ?_
    refine G_go rfl rfl ?_
    refine G_go rfl rfl ?_
    exact h
theorem sb_X6_richest_0 (n : Nat) (s : Nat → Nat → Int) (Q : List Vl → Sto → Prop) (a0 : Int) (hR : refs s)
    (h : (a0 < 0 → Q [(1, (-2))] (n, upS s 119 2 (wr ((s 119 2) + 1)))) ∧ (0 ≤ a0 → (a0 ≤ 1 → G 2 120 119 22 [(3, 2), (1, a0), (1, 0), (1, (-9)), (1, 0)] [] (n, s) Q) ∧ (1 < a0 → Q [(1, (-2))] (n, upS s 119 2 (wr ((s 119 2) + 1)))))) :
    G 2 120 119 0 [(3, 2), (1, a0), (0, 0), (0, 0), (0, 0)] [] (n, s) Q := by
  refine G_go rfl rfl ?_
  refine G_go rfl rfl ?_
  refine G_call rfl rfl ?_
  refine G_go rfl rfl ?_
  refine G_lt rfl rfl (fun c1 => ?_) (fun c1 => ?_)
  · have h := h.1 c1
    refine G_go rfl rfl ?_
    refine G_go rfl rfl ?_
    refine G_ret rfl rfl ?_
    refine G_go rfl rfl ?_
    refine G_go rfl rfl ?_
    refine G_brF rfl rfl rfl ?_
    refine G_go rfl rfl ?_
    refine G_go rfl rfl ?_
    refine G_call rfl rfl ?_
    refine G_go rfl rfl ?_
    refine G_go rfl rfl ?_
    refine G_go rfl rfl ?_
    refine G_go rfl rfl ?_
    refine G_brF rfl rfl rfl ?_
    refine G_go rfl rfl ?_
    refine G_go rfl rfl ?_
    refine G_rf rfl rfl (by decide) (hR 2 7 119 rfl) ?_
    refine G_go rfl rfl ?_
    refine G_brF rfl rfl rfl ?_
    refine G_go rfl rfl ?_
    refine G_rf rfl rfl (by decide) (hR 2 7 119 rfl) ?_
    refine G_go rfl rfl ?_
    refine G_go rfl rfl ?_
    refine G_ir (n := 7) rfl rfl (by decide) (by decide) (by decide) ?_
    refine G_go rfl rfl ?_
    refine G_go rfl rfl ?_
    refine G_iw (n := 7) rfl rfl (by decide) (by decide) (by decide) ?_
    have hR := refs_up (a := 119) (k := 2) (x := wr ((s 119 2) + 1)) hR rfl
    refine G_go rfl rfl ?_
    refine G_ret rfl rfl ?_
    exact G_ret rfl rfl h
  · have h := h.2 c1
    refine G_go rfl rfl ?_
    refine G_go rfl rfl ?_
    refine G_le rfl rfl (fun c2 => ?_) (fun c2 => ?_)
    · have h := h.1 c2
      refine G_go rfl rfl ?_
      refine G_ret rfl rfl ?_
      refine G_go rfl rfl ?_
      refine G_go rfl rfl ?_
      refine G_brT rfl rfl rfl ?_
      refine G_go rfl rfl ?_
      refine G_go rfl rfl ?_
      refine G_go rfl rfl ?_
      refine G_go rfl rfl ?_
      exact h
    · have h := h.2 c2
      refine G_go rfl rfl ?_
      refine G_go rfl rfl ?_
      refine G_ret rfl rfl ?_
      refine G_go rfl rfl ?_
      refine G_go rfl rfl ?_
      refine G_brF rfl rfl rfl ?_
      refine G_go rfl rfl ?_
      refine G_go rfl rfl ?_
      refine G_call rfl rfl ?_
      refine G_go rfl rfl ?_
      refine G_go rfl rfl ?_
      refine G_go rfl rfl ?_
      refine G_go rfl rfl ?_
      refine G_brF rfl rfl rfl ?_
      refine G_go rfl rfl ?_
      refine G_go rfl rfl ?_
      refine G_rf rfl rfl (by decide) (hR 2 7 119 rfl) ?_
      refine G_go rfl rfl ?_
      refine G_brF rfl rfl rfl ?_
      refine G_go rfl rfl ?_
      refine G_rf rfl rfl (by decide) (hR 2 7 119 rfl) ?_
      refine G_go rfl rfl ?_
      refine G_go rfl rfl ?_
      refine G_ir (n := 7) rfl rfl (by decide) (by decide) (by decide) ?_
      refine G_go rfl rfl ?_
      refine G_go rfl rfl ?_
      refine G_iw (n := 7) rfl rfl (by decide) (by decide) (by decide) ?_
      have hR := refs_up (a := 119) (k := 2) (x := wr ((s 119 2) + 1)) hR rfl
      refine G_go rfl rfl ?_
      refine G_ret rfl rfl ?_
      exact G_ret rfl rfl h
theorem sb_X6_richest_22 (n : Nat) (s : Nat → Nat → Int) (Q : List Vl → Sto → Prop) (x1 : Int) (x2 : Int) (x3 : Int) (x4 : Int) (hR : refs s)
    (h : (s 3 9 ≤ x4 → Q [(1, x3)] (n, s)) ∧ (x4 < s 3 9 → (x3 = (-9) → G 2 120 119 22 [(3, 2), (1, x1), (1, x2), (1, x4), (1, wr (x4 + 1))] [] (n, s) Q) ∧ (x3 ≠ (-9) → G 2 120 98 0 [(3, 2), (1, x4), (1, x3), (1, x1), (0, 0)] [] (n, s) (fun r s1 => G 2 120 119 48 [(3, 2), (1, x1), (1, x2), (1, x3), (1, x4)] (r ++ []) s1 Q)))) :
    G 2 120 119 22 [(3, 2), (1, x1), (1, x2), (1, x3), (1, x4)] [] (n, s) Q := by
  refine G_go rfl rfl ?_
  refine G_go rfl rfl ?_
  refine G_rf rfl rfl (by decide) (hR 2 0 3 rfl) ?_
  refine G_rd rfl rfl (by decide) ?_
  refine G_ge rfl rfl (fun c1 => ?_) (fun c1 => ?_)
  · have h := h.1 c1
    refine G_go rfl rfl ?_
    exact G_ret rfl rfl h
  · have h := h.2 c1
    refine G_go rfl rfl ?_
    refine G_go rfl rfl ?_
    refine G_eq rfl rfl (fun c2 => ?_) (fun c2 => ?_)
    · have h := h.1 c2
      refine G_go rfl rfl ?_
      refine G_go rfl rfl ?_
      refine G_go rfl rfl ?_
      refine G_go rfl rfl ?_
      exact h
    · have h := h.2 c2
      refine G_go rfl rfl ?_
      refine G_go rfl rfl ?_
      refine G_go rfl rfl ?_
      refine G_go rfl rfl ?_
      exact G_call rfl rfl h
theorem sb_X7_richest_0 (n : Nat) (s : Nat → Nat → Int) (Q : List Vl → Sto → Prop) (a0 : Int) (hR : refs s)
    (h : (a0 < 0 → Q [(1, (-2))] (n, upS (upS s 120 10 0) 129 2 (wr ((s 129 2) + 1)))) ∧ (a0 ≥ 0 → (a0 > 1 → Q [(1, (-2))] (n, upS (upS s 120 10 0) 129 2 (wr ((s 129 2) + 1)))) ∧ (a0 ≤ 1 → G 120 140 210 27 [(3, 120), (1, a0), (1, (-9)), (1, 0), (0, 0)] [] (n, upS s 120 10 0) Q))) :
    G 120 140 210 0 [(3, 120), (1, a0), (0, 0), (0, 0), (0, 0)] [] (n, s) Q := by
  refine G_go rfl rfl ?_
  refine G_go rfl rfl ?_
  refine G_wr rfl rfl (by decide) ?_
  have hR := refs_up (a := 120) (k := 10) (x := 0) hR rfl
  refine G_go rfl rfl ?_
  refine G_go rfl rfl ?_
  refine G_go rfl rfl ?_
  refine G_go rfl rfl ?_
  refine G_call rfl rfl ?_
  refine G_go rfl rfl ?_
  refine G_go rfl rfl ?_
  refine G_go rfl rfl ?_
  refine G_lt rfl rfl (fun c1 => ?_) (fun c1 => ?_)
  · have c1 := xl_lt c1
    have h := h.1 c1
    refine G_go rfl rfl ?_
    refine G_ret rfl rfl ?_
    refine G_brF rfl rfl rfl ?_
    refine G_go rfl rfl ?_
    refine G_go rfl rfl ?_
    refine G_call rfl rfl ?_
    refine G_go rfl rfl ?_
    refine G_rf rfl rfl (by decide) (hR 120 11 129 rfl) ?_
    refine G_go rfl rfl ?_
    refine G_go rfl rfl ?_
    refine G_go rfl rfl ?_
    refine G_ir (n := 7) rfl rfl (by decide) (by decide) (by decide) ?_
    refine G_go rfl rfl ?_
    refine G_go rfl rfl ?_
    refine G_iw (n := 7) rfl rfl (by decide) (by decide) (by decide) ?_
    have hR := refs_up (a := 129) (k := 2) (x := wr ((s 129 2) + 1)) hR rfl
    refine G_go rfl rfl ?_
    refine G_ret rfl rfl ?_
    exact G_ret rfl rfl h
  · have c1 := xl_ge c1
    have h := h.2 c1
    refine G_go rfl rfl ?_
    refine G_go rfl rfl ?_
    refine G_go rfl rfl ?_
    refine G_gt rfl rfl (fun c2 => ?_) (fun c2 => ?_)
    · have c2 := xl_gt c2
      have h := h.1 c2
      refine G_go rfl rfl ?_
      refine G_ret rfl rfl ?_
      refine G_brF rfl rfl rfl ?_
      refine G_go rfl rfl ?_
      refine G_go rfl rfl ?_
      refine G_call rfl rfl ?_
      refine G_go rfl rfl ?_
      refine G_rf rfl rfl (by decide) (hR 120 11 129 rfl) ?_
      refine G_go rfl rfl ?_
      refine G_go rfl rfl ?_
      refine G_go rfl rfl ?_
      refine G_ir (n := 7) rfl rfl (by decide) (by decide) (by decide) ?_
      refine G_go rfl rfl ?_
      refine G_go rfl rfl ?_
      refine G_iw (n := 7) rfl rfl (by decide) (by decide) (by decide) ?_
      have hR := refs_up (a := 129) (k := 2) (x := wr ((s 129 2) + 1)) hR rfl
      refine G_go rfl rfl ?_
      refine G_ret rfl rfl ?_
      exact G_ret rfl rfl h
    · have c2 := xl_le c2
      have h := h.2 c2
      refine G_go rfl rfl ?_
      refine G_go rfl rfl ?_
      refine G_ret rfl rfl ?_
      refine G_brT rfl rfl rfl ?_
      refine G_go rfl rfl ?_
      refine G_go rfl rfl ?_
      refine G_go rfl rfl ?_
      refine G_go rfl rfl ?_
      exact h
theorem sb_X7_richest_27 (n : Nat) (s : Nat → Nat → Int) (Q : List Vl → Sto → Prop) (x1 : Int) (x2 : Int) (x3 : Int) (w4 : Vl) (hR : refs s)
    (h : (s 120 0 ≤ x3 → Q [(1, x2)] (n, s)) ∧ (x3 < s 120 0 → (x2 < 0 → G 120 140 210 27 [(3, 120), (1, x1), (1, x3), (1, wr (x3 + 1)), (1, 1)] [] (n, s) Q) ∧ (0 ≤ x2 → (x1 ≠ 0 → (0 ≤ x3 ∧ x3 < 6) ∧ ((rgP (vw 121 s) x3.toNat) ∧ ((0 ≤ vw 121 s 2 x3.toNat ∧ vw 121 s 2 x3.toNat ≤ 2000) ∧ ((0 ≤ x2 ∧ x2 < 6) ∧ ((rgP (vw 121 s) x2.toNat) ∧ ((0 ≤ vw 121 s 2 x2.toNat ∧ vw 121 s 2 x2.toNat ≤ 2000) ∧ ((wlW (vw 121 s) x2.toNat ≤ wlW (vw 121 s) x3.toNat → G 120 140 210 27 [(3, 120), (1, x1), (1, x2), (1, wr (x3 + 1)), (1, 0)] [] (n, s) Q) ∧ (wlW (vw 121 s) x3.toNat < wlW (vw 121 s) x2.toNat → G 120 140 210 27 [(3, 120), (1, x1), (1, x3), (1, wr (x3 + 1)), (1, 1)] [] (n, s) Q)))))))) ∧ (x1 = 0 → (0 ≤ x3 ∧ x3 < 6) ∧ ((rgP (vw 121 s) x3.toNat) ∧ ((0 ≤ vw 121 s 2 x3.toNat ∧ vw 121 s 2 x3.toNat ≤ 2000) ∧ ((0 ≤ x2 ∧ x2 < 6) ∧ ((rgP (vw 121 s) x2.toNat) ∧ ((0 ≤ vw 121 s 2 x2.toNat ∧ vw 121 s 2 x2.toNat ≤ 2000) ∧ ((wlW (vw 121 s) x3.toNat ≤ wlW (vw 121 s) x2.toNat → G 120 140 210 27 [(3, 120), (1, x1), (1, x2), (1, wr (x3 + 1)), (1, 0)] [] (n, s) Q) ∧ (wlW (vw 121 s) x2.toNat < wlW (vw 121 s) x3.toNat → G 120 140 210 27 [(3, 120), (1, x1), (1, x3), (1, wr (x3 + 1)), (1, 1)] [] (n, s) Q))))))))))) :
    G 120 140 210 27 [(3, 120), (1, x1), (1, x2), (1, x3), w4] [] (n, s) Q := by
  refine G_go rfl rfl ?_
  refine G_go rfl rfl ?_
  refine G_rd rfl rfl (by decide) ?_
  refine G_ge rfl rfl (fun c1 => ?_) (fun c1 => ?_)
  · have h := h.1 c1
    refine G_go rfl rfl ?_
    exact G_ret rfl rfl h
  · have h := h.2 c1
    refine G_go rfl rfl ?_
    refine G_lt rfl rfl (fun c2 => ?_) (fun c2 => ?_)
    · have h := h.1 c2
      refine G_go rfl rfl ?_
      refine G_go rfl rfl ?_
      refine G_go rfl rfl ?_
      refine G_go rfl rfl ?_
      refine G_brF rfl rfl rfl ?_
      refine G_go rfl rfl ?_
      refine G_go rfl rfl ?_
      refine G_go rfl rfl ?_
      refine G_go rfl rfl ?_
      refine G_go rfl rfl ?_
      exact h
    · have h := h.2 c2
      refine G_go rfl rfl ?_
      refine G_ne rfl rfl (fun c3 => ?_) (fun c3 => ?_)
      · have h := h.1 c3
        refine G_go rfl rfl ?_
        refine G_go rfl rfl ?_
        refine G_call rfl rfl ?_
        obtain ⟨g4, h⟩ := h
        obtain ⟨g5, h⟩ := h
        obtain ⟨g6, h⟩ := h
        refine c_X7_wealthOf n _ _ x3 hR g4 g5 g6 ?_
        refine G_go rfl rfl ?_
        refine G_go rfl rfl ?_
        refine G_call rfl rfl ?_
        obtain ⟨g7, h⟩ := h
        obtain ⟨g8, h⟩ := h
        obtain ⟨g9, h⟩ := h
        refine c_X7_wealthOf n _ _ x2 hR g7 g8 g9 ?_
        refine G_ge rfl rfl (fun c10 => ?_) (fun c10 => ?_)
        · have h := h.1 c10
          refine G_go rfl rfl ?_
          refine G_go rfl rfl ?_
          refine G_go rfl rfl ?_
          refine G_brT rfl rfl rfl ?_
          refine G_go rfl rfl ?_
          refine G_go rfl rfl ?_
          refine G_go rfl rfl ?_
          refine G_go rfl rfl ?_
          exact h
        · have h := h.2 c10
          refine G_go rfl rfl ?_
          refine G_go rfl rfl ?_
          refine G_go rfl rfl ?_
          refine G_go rfl rfl ?_
          refine G_brF rfl rfl rfl ?_
          refine G_go rfl rfl ?_
          refine G_go rfl rfl ?_
          refine G_go rfl rfl ?_
          refine G_go rfl rfl ?_
          refine G_go rfl rfl ?_
          exact h
      · have h := h.2 c3
        refine G_go rfl rfl ?_
        refine G_go rfl rfl ?_
        refine G_call rfl rfl ?_
        obtain ⟨g11, h⟩ := h
        obtain ⟨g12, h⟩ := h
        obtain ⟨g13, h⟩ := h
        refine c_X7_wealthOf n _ _ x3 hR g11 g12 g13 ?_
        refine G_go rfl rfl ?_
        refine G_go rfl rfl ?_
        refine G_call rfl rfl ?_
        obtain ⟨g14, h⟩ := h
        obtain ⟨g15, h⟩ := h
        obtain ⟨g16, h⟩ := h
        refine c_X7_wealthOf n _ _ x2 hR g14 g15 g16 ?_
        refine G_le rfl rfl (fun c17 => ?_) (fun c17 => ?_)
        · have h := h.1 c17
          refine G_go rfl rfl ?_
          refine G_go rfl rfl ?_
          refine G_go rfl rfl ?_
          refine G_brT rfl rfl rfl ?_
          refine G_go rfl rfl ?_
          refine G_go rfl rfl ?_
          refine G_go rfl rfl ?_
          refine G_go rfl rfl ?_
          exact h
        · have h := h.2 c17
          refine G_go rfl rfl ?_
          refine G_go rfl rfl ?_
          refine G_go rfl rfl ?_
          refine G_go rfl rfl ?_
          refine G_go rfl rfl ?_
          refine G_brF rfl rfl rfl ?_
          refine G_go rfl rfl ?_
          refine G_go rfl rfl ?_
          refine G_go rfl rfl ?_
          refine G_go rfl rfl ?_
          refine G_go rfl rfl ?_
          exact h
end
section
theorem sb_X7_relay_52 (n : Nat) (s : Nat → Nat → Int) (Q : List Vl → Sto → Prop) (x1 : Int) (x2 : Int) (x3 : Int) (r : Int) (hR : refs s)
    (h : (x1 = 0 → Q [(1, x2)] (n, s)) ∧ (x1 ≠ 0 → (0 ≤ r → (0 ≤ r ∧ r < 6) ∧ ((rgP (vw 121 s) r.toNat) ∧ ((0 ≤ vw 121 s 2 r.toNat ∧ vw 121 s 2 r.toNat ≤ 2000) ∧ ((0 ≤ vw 121 s 4 r.toNat ∧ vw 121 s 4 r.toNat ≤ 99) ∧ (Q [(1, min (xdiv x2 2) (wr (x2 - (lsW (vw 121 s) r.toNat))))] (n, s)))))) ∧ (r < 0 → Q [(1, x2)] (n, s)))) :
    G 120 140 208 52 [(3, 120), (1, x1), (1, x2), (1, x3)] [(1, r)] (n, s) Q := by
  refine G_go rfl rfl ?_
  refine G_go rfl rfl ?_
  refine G_eq rfl rfl (fun c1 => ?_) (fun c1 => ?_)
  · have h := h.1 c1
    refine G_go rfl rfl ?_
    refine G_go rfl rfl ?_
    exact G_ret rfl rfl h
  · have h := h.2 c1
    refine G_go rfl rfl ?_
    refine G_ge rfl rfl (fun c2 => ?_) (fun c2 => ?_)
    · have h := h.1 c2
      refine G_go rfl rfl ?_
      refine G_go rfl rfl ?_
      refine G_go rfl rfl ?_
      refine G_go rfl rfl ?_
      refine G_go rfl rfl ?_
      refine G_go rfl rfl ?_
      refine G_call rfl rfl ?_
      obtain ⟨g3, h⟩ := h
      obtain ⟨g4, h⟩ := h
      obtain ⟨g5, h⟩ := h
      obtain ⟨g6, h⟩ := h
      refine c_X7_lastsOf n _ _ r hR g3 g4 g5 g6 ?_
      refine G_go rfl rfl ?_
      refine G_call rfl rfl ?_
      refine c_X7_least n _ _ (xdiv x2 2) (wr (x2 - (lsW (vw 121 s) r.toNat))) hR ?_
      exact G_ret rfl rfl h
    · have h := h.2 c2
      refine G_go rfl rfl ?_
      refine G_go rfl rfl ?_
      exact G_ret rfl rfl h
theorem sb_X6_richest_48 (n : Nat) (s : Nat → Nat → Int) (Q : List Vl → Sto → Prop) (x1 : Int) (x2 : Int) (x3 : Int) (x4 : Int) (r : Int) (hR : refs s)
    (h : (r = 0 → G 2 120 119 22 [(3, 2), (1, x1), (1, x2), (1, x3), (1, wr (x4 + 1))] [] (n, s) Q) ∧ (r ≠ 0 → G 2 120 119 22 [(3, 2), (1, x1), (1, x2), (1, x4), (1, wr (x4 + 1))] [] (n, s) Q)) :
    G 2 120 119 48 [(3, 2), (1, x1), (1, x2), (1, x3), (1, x4)] [(1, r)] (n, s) Q := by
  refine G_eq rfl rfl (fun c1 => ?_) (fun c1 => ?_)
  · have h := h.1 c1
    refine G_go rfl rfl ?_
    refine G_go rfl rfl ?_
    exact h
  · have h := h.2 c1
    refine G_go rfl rfl ?_
    refine G_go rfl rfl ?_
    refine G_go rfl rfl ?_
    refine G_go rfl rfl ?_
    exact h
def smF (W : Nat → Int) (k : Nat) (x : Int) : Int := wr (x + W k)
def txW (t : Nat → Nat → Int) (v : Int) (p : Nat) : Int := wr (v * bnW (vw 121 t) p)
theorem cl_tax (n : Nat) (s t : Nat → Nat → Int) (h : REL s t) (a0 a1 x3 : Int) (ha : 0 ≤ a0 ∧ a0 ≤ 9) (Q : List Vl → Sto → Prop) (hq : Q [(1, if a1 = 0 then itr (smF (txW t a0)) 0 (t 120 0).toNat else itr (amF (txW t a0)) (-9) (t 120 0).toNat)] (n, s)) : G 2 120 126 39 [(3, 2), (1, a0), (1, a1), (1, x3), (1, 0), (1, (-9)), (1, (-1)), (1, 0), (0, 0)] [] (n, s) Q := by
  obtain ⟨hn1, hn2, hn3, hn4⟩ := h.np
  refine G_up (t 120 0).toNat (fun k b => ∀ w, G 2 120 126 39 [(3, 2), (1, a0), (1, a1), (1, x3), (1, itr (smF (txW t a0)) 0 k), (1, b), (1, mx (txW t a0) b), (1, (k : Int)), w] [] (n, s) Q) (amF (txW t a0)) amI (-9) (Or.inl ⟨rfl, rfl⟩) (fun k b _ hb => amF_in hb) (fun k b hk hb hg w => ?_) (fun _ w => ?_) (0, 0)
  · have hp : (k : Int) < t 120 0 := by omega
    obtain ⟨g1, g2, g3, g4, g5, g6⟩ := h.rg k hp
    have ht := h.t k hp
    have e : wr (a0 * bnV (vw 4 s) k (s 6 k)) = txW t a0 k := by
      rw [h.bn k hp, (h.s k hp).2.2.1]
      rfl
    have hr : 0 ≤ txW t a0 k := by
      have hb := h.br k hp (t 123 k) ⟨ht.2.2.1.1, by omega⟩
      have h1 : 0 ≤ a0 * bnW (vw 121 t) k := Int.mul_nonneg ha.1 (show 0 ≤ bnV (vw 121 t) k (t 123 k) by omega)
      have h2 : a0 * bnW (vw 121 t) k ≤ 9 * 2001 := Int.mul_le_mul ha.2 hb.2 (show 0 ≤ bnV (vw 121 t) k (t 123 k) by omega) (by decide)
      unfold txW
      rw [wr_id (by omega) (by omega)]
      exact h1
    have hs : itr (smF (txW t a0)) 0 (k + 1) = wr (itr (smF (txW t a0)) 0 k + txW t a0 k) := rfl
    rw [← wr_s hk (by omega), hs] at hg
    refine sb_X6_tax_39 n s Q a0 a1 x3 _ b _ k w h.1 ⟨fun e => by omega, fun _ => ⟨by omega, g1, g3, fun c => ?_, fun c => ?_⟩⟩
    all_goals rw [Int.toNat_natCast] at *
    all_goals rw [e] at *
    · rw [amF_no hr c] at hg
      exact hg _
    · rw [amF_yes c, mx_nat] at hg
      exact hg _
  · refine sb_X6_tax_39 n s Q _ _ _ _ _ _ _ _ h.1 ⟨fun _ => ⟨fun c => ?_, fun c => ?_⟩, fun e => by omega⟩
    · rw [if_neg c] at hq
      exact hq
    · rw [if_pos c] at hq
      exact hq
theorem rl_tax (n : Nat) (s t : Nat → Nat → Int) (h : REL s t) (a0 a1 : Int) (Q : List Vl → Sto → Prop) (hq : Q [(1, if a1 = 0 then itr (smF (txW t a0)) 0 (t 120 0).toNat else itr (amF (txW t a0)) (-9) (t 120 0).toNat)] (n, t)) : G 120 140 217 38 [(3, 120), (1, a0), (1, a1), (1, 0), (1, 0), (1, (-9)), (1, 0)] [] (n, t) Q := by
  obtain ⟨hn1, hn2, hn3, hn4⟩ := h.np
  refine G_up (t 120 0).toNat (fun k b => G 120 140 217 38 [(3, 120), (1, a0), (1, a1), (1, 0), (1, itr (smF (txW t a0)) 0 k), (1, b), (1, (k : Int))] [] (n, t) Q) (amF (txW t a0)) amI (-9) (Or.inl ⟨rfl, rfl⟩) (fun k b _ hb => amF_in hb) (fun k b hk hb hg => ?_) (fun _ => ?_)
  · have hp : (k : Int) < t 120 0 := by omega
    obtain ⟨g1, g2, g3, g4, g5, g6⟩ := h.rg k hp
    have hs : itr (smF (txW t a0)) 0 (k + 1) = wr (itr (smF (txW t a0)) 0 k + txW t a0 k) := rfl
    rw [← wr_s hk (by omega), hs] at hg
    refine sb_X7_tax_38 n t Q a0 a1 0 _ b k h.2.1 ⟨fun e => by omega, fun _ => ⟨by omega, g2, g4, fun c => ?_, fun c => ?_⟩⟩
    · rw [show amF (txW t a0) k b = k from if_pos c] at hg
      exact hg
    · have hb2 : b < k := by
        unfold amI at hb
        omega
      obtain ⟨b1, b2, b3, b4, b5, b6⟩ := h.rg b.toNat (by omega)
      refine ⟨by omega, b2, b4, fun d => ?_, fun d => ?_⟩
      · have d : txW t a0 k ≤ txW t a0 b.toNat := d
        rw [show amF (txW t a0) k b = b by unfold amF; rw [if_neg (by omega), if_neg (by omega)]] at hg
        exact hg
      · have d : txW t a0 b.toNat < txW t a0 k := d
        rw [show amF (txW t a0) k b = k by unfold amF; rw [if_neg (by omega), if_pos d]] at hg
        exact hg
  · refine sb_X7_tax_38 n t Q _ _ _ _ _ _ h.2.1 ⟨fun _ => ⟨fun c => ?_, fun c => ?_⟩, fun e => by omega⟩
    · rw [if_neg c] at hq
      exact hq
    · rw [if_pos c] at hq
      exact hq
theorem op_tax (n : Nat) (s t : Nat → Nat → Int) (h : REL s t) (a0 a1 : Int) : G 2 120 126 0 [(3, 2), (1, a0), (1, a1), (0, 0), (0, 0), (0, 0), (0, 0), (0, 0), (0, 0)] [] (n, s) (fun r s1 => G 120 140 217 0 [(3, 120), (1, a0), (1, a1), (0, 0), (0, 0), (0, 0), (0, 0)] [] (n, t) (Post n r s1)) := by
  refine sb_X6_tax_0 n s _ a0 a1 h.1 ?_
  repeat' first | with_reducible refine And.intro ?_ ?_ | intro _
  all_goals first | omega | refine cl_tax n s _ h.up a0 a1 _ (by omega) _ ?_ | skip
  all_goals refine sb_X7_tax_0 n t _ a0 a1 h.2.1 ?_
  all_goals repeat' first | with_reducible refine And.intro ?_ ?_ | intro _
  all_goals first | omega | exact post_ref h _ (by decide) | skip
  exact rl_tax n s _ h.up a0 a1 _ (post_same h rfl)
/-! RELAY -/
def mx0 (W : Nat → Int) (b : Int) : Int := if b < 0 then 0 else W b.toNat
theorem mx0_step {W : Nat → Int} {k : Nat} {b : Int} (h0 : 0 ≤ W k) : max (mx0 W b) (W k) = mx0 W (amF W k b) := by
  unfold mx0 amF
  by_cases c : b < 0
  · rw [if_pos c, if_pos c, if_neg (by omega), Int.toNat_natCast]
    omega
  · rw [if_neg c, if_neg c]
    by_cases d : W b.toNat < W k
    · rw [if_pos d, if_neg (by omega), Int.toNat_natCast]
      omega
    · rw [if_neg d, if_neg c]
      omega
def rlV (t : Nat → Nat → Int) (a0 : Int) : Int :=
  if a0 = 0 then itr (smF (lsW (vw 121 t))) 0 (t 120 0).toNat else min (xdiv (itr (smF (lsW (vw 121 t))) 0 (t 120 0).toNat) 2) (wr (itr (smF (lsW (vw 121 t))) 0 (t 120 0).toNat - mx0 (lsW (vw 121 t)) (itr (amF (lsW (vw 121 t))) (-9) (t 120 0).toNat)))
theorem cl_relay (n : Nat) (s t : Nat → Nat → Int) (h : REL s t) (a0 x2 : Int) (Q : List Vl → Sto → Prop) (hq : Q [(1, rlV t a0)] (n, s)) : G 2 120 117 24 [(3, 2), (1, a0), (1, x2), (1, 0), (1, 0), (1, 0)] [] (n, s) Q := by
  obtain ⟨hn1, hn2, hn3, hn4⟩ := h.np
  refine G_up (t 120 0).toNat (fun k b => G 2 120 117 24 [(3, 2), (1, a0), (1, x2), (1, itr (smF (lsW (vw 121 t))) 0 k), (1, mx0 (lsW (vw 121 t)) b), (1, (k : Int))] [] (n, s) Q) (amF (lsW (vw 121 t))) amI (-9) (Or.inl ⟨rfl, rfl⟩) (fun k b _ hb => amF_in hb) (fun k b hk hb hg => ?_) (fun _ => ?_)
  · have hp : (k : Int) < t 120 0 := by omega
    obtain ⟨g1, g2, g3, g4, g5, g6⟩ := h.rg k hp
    have ht := h.t k hp
    have e : lsV (vw 4 s) k (s 6 k) = lsW (vw 121 t) k := by
      rw [h.ls k hp, (h.s k hp).2.2.1]
      rfl
    have hr : 0 ≤ lsW (vw 121 t) k := (h.lr k hp _ ⟨ht.2.2.1.1, by omega⟩).1
    have hs : itr (smF (lsW (vw 121 t))) 0 (k + 1) = wr (itr (smF (lsW (vw 121 t))) 0 k + lsW (vw 121 t) k) := rfl
    rw [← wr_s hk (by omega), hs, ← mx0_step hr] at hg
    refine sb_X6_relay_24 n s Q a0 x2 _ _ k h.1 ⟨fun e => by omega, fun _ => ⟨by omega, g1, g3, g5, ?_⟩⟩
    rw [Int.toNat_natCast, e]
    exact hg
  · refine sb_X6_relay_24 n s Q _ _ _ _ _ h.1 ⟨fun _ => ⟨fun c => ?_, fun c => ?_⟩, fun e => by omega⟩
    · rw [show rlV t a0 = _ from if_neg c] at hq
      exact hq
    · rw [show rlV t a0 = _ from if_pos c] at hq
      exact hq
theorem rl_relay (n : Nat) (s t : Nat → Nat → Int) (h : REL s t) (a0 : Int) (Q : List Vl → Sto → Prop) (hq : Q [(1, rlV t a0)] (n, t)) : G 120 140 208 26 [(3, 120), (1, a0), (1, 0), (1, 0)] [] (n, t) Q := by
  obtain ⟨hn1, hn2, hn3, hn4⟩ := h.np
  refine G_up (t 120 0).toNat (fun k b => G 120 140 208 26 [(3, 120), (1, a0), (1, b), (1, (k : Int))] [] (n, t) Q) (smF (lsW (vw 121 t))) (fun _ _ => True) 0 trivial (fun _ _ _ _ => trivial) (fun k b hk _ hg => ?_) (fun _ => ?_)
  · have hp : (k : Int) < t 120 0 := by omega
    obtain ⟨g1, g2, g3, g4, g5, g6⟩ := h.rg k hp
    rw [← wr_s hk (by omega)] at hg
    exact sb_X7_relay_26 n t Q a0 b k h.2.1 ⟨fun e => by omega, fun _ => ⟨by omega, g2, g4, g6, hg⟩⟩
  · refine sb_X7_relay_26 n t Q _ _ _ h.2.1 ⟨fun _ => ?_, fun e => by omega⟩
    refine rl_longest n s t h _ ?_
    have hI : amI (t 120 0).toNat (itr (amF (lsW (vw 121 t))) (-9) (t 120 0).toNat) := itr_inv amI (Or.inl ⟨rfl, rfl⟩) _ (fun k b _ hb => amF_in hb)
    generalize hb : itr (amF (lsW (vw 121 t))) (-9) (t 120 0).toNat = b at *
    refine sb_X7_relay_52 n t Q a0 _ _ b h.2.1 ?_
    unfold rlV at hq
    rw [hb] at hq
    refine ⟨fun c => ?_, fun c => ⟨fun d => ?_, fun d => ?_⟩⟩
    · rw [if_pos c] at hq
      exact hq
    · rw [if_neg c, show mx0 (lsW (vw 121 t)) b = lsW (vw 121 t) b.toNat from if_neg (by omega)] at hq
      have hb2 : b < t 120 0 := by
        unfold amI at hI
        omega
      obtain ⟨b1, b2, b3, b4, b5, b6⟩ := h.rg b.toNat (by omega)
      exact ⟨by omega, b2, b4, b6, hq⟩
    · have hN : (t 120 0).toNat = 0 := by
        unfold amI at hI
        omega
      rw [if_neg c, show mx0 (lsW (vw 121 t)) b = 0 from if_pos d, hN] at hq
      rw [hN]
      have e0 : itr (smF (lsW (vw 121 t))) 0 0 = 0 := rfl
      have e1 : min (xdiv 0 2) (wr (0 - 0)) = 0 := by decide
      rw [e0, e1] at hq
      rw [e0]
      exact hq
theorem op_relay (n : Nat) (s t : Nat → Nat → Int) (h : REL s t) (a0 : Int) : G 2 120 117 0 [(3, 2), (1, a0), (0, 0), (0, 0), (0, 0), (0, 0)] [] (n, s) (fun r s1 => G 120 140 208 0 [(3, 120), (1, a0), (0, 0), (0, 0)] [] (n, t) (Post n r s1)) := by
  refine sb_X6_relay_0 n s _ a0 h.1 ?_
  repeat' first | with_reducible refine And.intro ?_ ?_ | intro _
  all_goals first | omega | refine cl_relay n s _ h.up a0 _ _ ?_ | skip
  all_goals refine sb_X7_relay_0 n t _ a0 h.2.1 ?_
  all_goals repeat' first | with_reducible refine And.intro ?_ ?_ | intro _
  all_goals first | omega | exact post_ref h _ (by decide) | skip
  exact rl_relay n s _ h.up a0 _ (post_same h rfl)
/-! RICHEST -/
def rcW (t : Nat → Nat → Int) (v : Int) (p : Nat) : Int := if v = 0 then wlW (vw 121 t) p else -wlW (vw 121 t) p
theorem cl_richest (n : Nat) (s t : Nat → Nat → Int) (h : REL s t) (a0 x2 : Int) (Q : List Vl → Sto → Prop) (hq : Q [(1, itr (amF (rcW t a0)) (-9) (t 120 0).toNat)] (n, s)) : G 2 120 119 22 [(3, 2), (1, a0), (1, x2), (1, (-9)), (1, 0)] [] (n, s) Q := by
  obtain ⟨hn1, hn2, hn3, hn4⟩ := h.np
  refine G_up (t 120 0).toNat (fun k b => G 2 120 119 22 [(3, 2), (1, a0), (1, x2), (1, b), (1, (k : Int))] [] (n, s) Q) (amF (rcW t a0)) amI (-9) (Or.inl ⟨rfl, rfl⟩) (fun k b _ hb => amF_in hb) (fun k b hk hb hg => ?_) (fun _ => ?_)
  · have hp : (k : Int) < t 120 0 := by omega
    obtain ⟨⟨g1, g2⟩, _, g3, g4, g5, g6⟩ := h.rg k hp
    have hw := h.wr k hp
    rw [← wr_s hk (by omega)] at hg
    refine sb_X6_richest_22 n s Q a0 x2 b k h.1 ⟨fun e => by omega, fun _ => ⟨fun c => ?_, fun c => ?_⟩⟩
    · rw [show amF (rcW t a0) k b = k from if_pos (by omega)] at hg
      exact hg
    · have hb2 : 0 ≤ b ∧ b < k := by
        unfold amI at hb
        omega
      have hpb : (b.toNat : Int) < t 120 0 := by omega
      obtain ⟨⟨b1, b2⟩, _, b3, b4, b5, b6⟩ := h.rg b.toNat hpb
      have hwb := h.wr b.toNat hpb
      have e1 := h.wl k hp
      have e2 := h.wl b.toNat hpb
      refine sb_X6_isFurther_0 n s _ k b a0 h.1 ?_
      rw [Int.toNat_natCast, e1, e2, wr_id (by omega) (by omega)]
      refine ⟨by omega, g1, g3, g2, by omega, b1, b3, b2, fun d => ⟨fun u => ?_, fun u => ?_⟩, fun d => ⟨fun u => ?_, fun u => ?_⟩⟩
      all_goals refine sb_X6_richest_48 n s Q a0 x2 b k _ h.1 ?_
      all_goals refine ⟨fun v => ?_, fun v => ?_⟩
      all_goals first | omega | skip
      · have e : amF (rcW t a0) k b = b := by
          unfold amF rcW
          rw [if_neg (by omega), if_neg d, if_neg d, if_neg (by omega)]
        rw [e] at hg
        exact hg
      · have e : amF (rcW t a0) k b = k := by
          unfold amF rcW
          rw [if_neg (by omega), if_neg d, if_neg d, if_pos (by omega)]
        rw [e] at hg
        exact hg
      · have e : amF (rcW t a0) k b = b := by
          unfold amF rcW
          rw [if_neg (by omega), if_pos d, if_pos d, if_neg (by omega)]
        rw [e] at hg
        exact hg
      · have e : amF (rcW t a0) k b = k := by
          unfold amF rcW
          rw [if_neg (by omega), if_pos d, if_pos d, if_pos (by omega)]
        rw [e] at hg
        exact hg
  · exact sb_X6_richest_22 n s Q a0 _ _ _ h.1 ⟨fun _ => hq, fun e => by omega⟩
theorem rl_richest (n : Nat) (s t : Nat → Nat → Int) (h : REL s t) (a0 : Int) (Q : List Vl → Sto → Prop) (hq : Q [(1, itr (amF (rcW t a0)) (-9) (t 120 0).toNat)] (n, t)) : G 120 140 210 27 [(3, 120), (1, a0), (1, (-9)), (1, 0), (0, 0)] [] (n, t) Q := by
  obtain ⟨hn1, hn2, hn3, hn4⟩ := h.np
  refine G_up (t 120 0).toNat (fun k b => ∀ w, G 120 140 210 27 [(3, 120), (1, a0), (1, b), (1, (k : Int)), w] [] (n, t) Q) (amF (rcW t a0)) amI (-9) (Or.inl ⟨rfl, rfl⟩) (fun k b _ hb => amF_in hb) (fun k b hk hb hg w => ?_) (fun _ w => ?_) (0, 0)
  · have hp : (k : Int) < t 120 0 := by omega
    obtain ⟨_, g2, _, g4, g5, g6⟩ := h.rg k hp
    rw [← wr_s hk (by omega)] at hg
    refine sb_X7_richest_27 n t Q a0 b k w h.2.1 ⟨fun e => by omega, fun _ => ⟨fun c => ?_, fun c => ?_⟩⟩
    · rw [show amF (rcW t a0) k b = k from if_pos c] at hg
      exact hg _
    · have hb2 : 0 ≤ b ∧ b < k := by
        unfold amI at hb
        omega
      have hpb : (b.toNat : Int) < t 120 0 := by omega
      obtain ⟨_, b2, _, b4, b5, b6⟩ := h.rg b.toNat hpb
      rw [Int.toNat_natCast]
      refine ⟨fun d => ⟨by omega, g2, g4, by omega, b2, b4, fun u => ?_, fun u => ?_⟩, fun d => ⟨by omega, g2, g4, by omega, b2, b4, fun u => ?_, fun u => ?_⟩⟩
      · have e : amF (rcW t a0) k b = b := by
          unfold amF rcW
          rw [if_neg (by omega), if_neg d, if_neg d, if_neg (by omega)]
        rw [e] at hg
        exact hg _
      · have e : amF (rcW t a0) k b = k := by
          unfold amF rcW
          rw [if_neg (by omega), if_neg d, if_neg d, if_pos (by omega)]
        rw [e] at hg
        exact hg _
      · have e : amF (rcW t a0) k b = b := by
          unfold amF rcW
          rw [if_neg (by omega), if_pos d, if_pos d, if_neg (by omega)]
        rw [e] at hg
        exact hg _
      · have e : amF (rcW t a0) k b = k := by
          unfold amF rcW
          rw [if_neg (by omega), if_pos d, if_pos d, if_pos (by omega)]
        rw [e] at hg
        exact hg _
  · exact sb_X7_richest_27 n t Q a0 _ _ w h.2.1 ⟨fun _ => hq, fun e => by omega⟩
theorem op_richest (n : Nat) (s t : Nat → Nat → Int) (h : REL s t) (a0 : Int) : G 2 120 119 0 [(3, 2), (1, a0), (0, 0), (0, 0), (0, 0)] [] (n, s) (fun r s1 => G 120 140 210 0 [(3, 120), (1, a0), (0, 0), (0, 0), (0, 0)] [] (n, t) (Post n r s1)) := by
  refine sb_X6_richest_0 n s _ a0 h.1 ?_
  repeat' first | with_reducible refine And.intro ?_ ?_ | intro _
  all_goals first | omega | refine cl_richest n s _ h.up a0 _ _ ?_ | skip
  all_goals refine sb_X7_richest_0 n t _ a0 h.2.1 ?_
  all_goals repeat' first | with_reducible refine And.intro ?_ ?_ | intro _
  all_goals first | omega | exact post_ref h _ (by decide) | skip
  exact rl_richest n s _ h.up a0 _ (post_same h rfl)
end
section
theorem sb_X6_borrow_0 (n : Nat) (s : Nat → Nat → Int) (Q : List Vl → Sto → Prop) (a0 : Int) (hR : refs s)
    (h : (a0 < 0 → Q [(1, 1000000001)] (n, upS s 119 1 (wr ((s 119 1) + 1)))) ∧ (0 ≤ a0 → (s 3 9 ≤ a0 → Q [(1, 1000000001)] (n, upS s 119 1 (wr ((s 119 1) + 1)))) ∧ (a0 < s 3 9 → (0 ≤ a0 ∧ a0 < 6) ∧ ((rgP (vw 4 s) a0.toNat) ∧ ((0 ≤ s 6 a0.toNat ∧ s 6 a0.toNat ≤ 2000) ∧ ((0 ≤ vw 4 s 4 a0.toNat ∧ vw 4 s 4 a0.toNat ≤ 99) ∧ ((0 ≤ min 999 (wr ((s 6 a0.toNat) + 10)) ∧ min 999 (wr ((s 6 a0.toNat) + 10)) ≤ 2000) ∧ (Q [(1, wr ((lsV (vw 4 s) a0.toNat (s 6 a0.toNat)) - (lsV (vw 4 s) a0.toNat (min 999 (wr ((s 6 a0.toNat) + 10))))))] (n, s))))))))) :
    G 2 120 72 0 [(3, 2), (1, a0), (0, 0)] [] (n, s) Q := by
  refine G_go rfl rfl ?_
  refine G_go rfl rfl ?_
  refine G_call rfl rfl ?_
  refine G_go rfl rfl ?_
  refine G_rf rfl rfl (by decide) (hR 2 0 3 rfl) ?_
  refine G_go rfl rfl ?_
  refine G_call rfl rfl ?_
  refine G_go rfl rfl ?_
  refine G_lt rfl rfl (fun c1 => ?_) (fun c1 => ?_)
  · have h := h.1 c1
    refine G_go rfl rfl ?_
    refine G_ret rfl rfl ?_
    refine G_brT rfl rfl rfl ?_
    refine G_go rfl rfl ?_
    refine G_ret rfl rfl ?_
    refine G_go rfl rfl ?_
    refine G_go rfl rfl ?_
    refine G_brF rfl rfl rfl ?_
    refine G_go rfl rfl ?_
    refine G_go rfl rfl ?_
    refine G_go rfl rfl ?_
    refine G_call rfl rfl ?_
    refine G_go rfl rfl ?_
    refine G_go rfl rfl ?_
    refine G_go rfl rfl ?_
    refine G_go rfl rfl ?_
    refine G_brF rfl rfl rfl ?_
    refine G_go rfl rfl ?_
    refine G_go rfl rfl ?_
    refine G_rf rfl rfl (by decide) (hR 2 7 119 rfl) ?_
    refine G_go rfl rfl ?_
    refine G_brF rfl rfl rfl ?_
    refine G_go rfl rfl ?_
    refine G_rf rfl rfl (by decide) (hR 2 7 119 rfl) ?_
    refine G_go rfl rfl ?_
    refine G_go rfl rfl ?_
    refine G_ir (n := 7) rfl rfl (by decide) (by decide) (by decide) ?_
    refine G_go rfl rfl ?_
    refine G_go rfl rfl ?_
    refine G_iw (n := 7) rfl rfl (by decide) (by decide) (by decide) ?_
    have hR := refs_up (a := 119) (k := 1) (x := wr ((s 119 1) + 1)) hR rfl
    refine G_go rfl rfl ?_
    refine G_ret rfl rfl ?_
    refine G_go rfl rfl ?_
    exact G_ret rfl rfl h
  · have h := h.2 c1
    refine G_go rfl rfl ?_
    refine G_go rfl rfl ?_
    refine G_rd rfl rfl (by decide) ?_
    refine G_ge rfl rfl (fun c2 => ?_) (fun c2 => ?_)
    · have h := h.1 c2
      refine G_go rfl rfl ?_
      refine G_ret rfl rfl ?_
      refine G_brT rfl rfl rfl ?_
      refine G_go rfl rfl ?_
      refine G_ret rfl rfl ?_
      refine G_go rfl rfl ?_
      refine G_go rfl rfl ?_
      refine G_brF rfl rfl rfl ?_
      refine G_go rfl rfl ?_
      refine G_go rfl rfl ?_
      refine G_go rfl rfl ?_
      refine G_call rfl rfl ?_
      refine G_go rfl rfl ?_
      refine G_go rfl rfl ?_
      refine G_go rfl rfl ?_
      refine G_go rfl rfl ?_
      refine G_brF rfl rfl rfl ?_
      refine G_go rfl rfl ?_
      refine G_go rfl rfl ?_
      refine G_rf rfl rfl (by decide) (hR 2 7 119 rfl) ?_
      refine G_go rfl rfl ?_
      refine G_brF rfl rfl rfl ?_
      refine G_go rfl rfl ?_
      refine G_rf rfl rfl (by decide) (hR 2 7 119 rfl) ?_
      refine G_go rfl rfl ?_
      refine G_go rfl rfl ?_
      refine G_ir (n := 7) rfl rfl (by decide) (by decide) (by decide) ?_
      refine G_go rfl rfl ?_
      refine G_go rfl rfl ?_
      refine G_iw (n := 7) rfl rfl (by decide) (by decide) (by decide) ?_
      have hR := refs_up (a := 119) (k := 1) (x := wr ((s 119 1) + 1)) hR rfl
      refine G_go rfl rfl ?_
      refine G_ret rfl rfl ?_
      refine G_go rfl rfl ?_
      exact G_ret rfl rfl h
    · have h := h.2 c2
      refine G_go rfl rfl ?_
      refine G_go rfl rfl ?_
      refine G_ret rfl rfl ?_
      refine G_brF rfl rfl rfl ?_
      refine G_go rfl rfl ?_
      refine G_go rfl rfl ?_
      refine G_ret rfl rfl ?_
      refine G_go rfl rfl ?_
      refine G_go rfl rfl ?_
      refine G_brT rfl rfl rfl ?_
      refine G_go rfl rfl ?_
      refine G_rf rfl rfl (by decide) (hR 2 0 3 rfl) ?_
      refine G_go rfl rfl ?_
      refine G_call rfl rfl ?_
      refine G_go rfl rfl ?_
      refine G_go rfl rfl ?_
      refine G_go rfl rfl ?_
      refine G_rf rfl rfl (by decide) (hR 3 2 6 rfl) ?_
      refine G_go rfl rfl ?_
      obtain ⟨g3, h⟩ := h
      refine G_ir (n := 6) rfl rfl (by decide) (by decide) g3 ?_
      refine G_call rfl rfl ?_
      obtain ⟨g4, h⟩ := h
      obtain ⟨g5, h⟩ := h
      obtain ⟨g6, h⟩ := h
      refine c_X5_lastsHolding_3 n _ _ a0 (s 6 a0.toNat) hR g3 g4 g5 g6 ?_
      refine G_ret rfl rfl ?_
      refine G_go rfl rfl ?_
      refine G_rf rfl rfl (by decide) (hR 2 0 3 rfl) ?_
      refine G_go rfl rfl ?_
      refine G_go rfl rfl ?_
      refine G_call rfl rfl ?_
      refine G_go rfl rfl ?_
      refine G_go rfl rfl ?_
      refine G_go rfl rfl ?_
      refine G_go rfl rfl ?_
      refine G_go rfl rfl ?_
      refine G_call rfl rfl ?_
      refine G_go rfl rfl ?_
      refine G_go rfl rfl ?_
      refine G_rf rfl rfl (by decide) (hR 3 2 6 rfl) ?_
      refine G_go rfl rfl ?_
      refine G_ir (n := 6) rfl rfl (by decide) (by decide) g3 ?_
      refine G_go rfl rfl ?_
      refine G_go rfl rfl ?_
      refine G_min rfl rfl ?_
      refine G_ret rfl rfl ?_
      refine G_call rfl rfl ?_
      obtain ⟨g7, h⟩ := h
      refine c_X5_lastsHolding_3 n _ _ a0 (min 999 (wr ((s 6 a0.toNat) + 10))) hR g3 g4 g7 g6 ?_
      refine G_ret rfl rfl ?_
      refine G_go rfl rfl ?_
      exact G_ret rfl rfl h
theorem sb_X7_borrow_0 (n : Nat) (s : Nat → Nat → Int) (Q : List Vl → Sto → Prop) (a0 : Int) (hR : refs s)
    (h : (a0 < 0 → Q [(1, 1000000001)] (n, upS (upS s 120 10 0) 129 1 (wr ((s 129 1) + 1)))) ∧ (a0 ≥ 0 → (a0 > wr ((s 120 0) - 1) → Q [(1, 1000000001)] (n, upS (upS s 120 10 0) 129 1 (wr ((s 129 1) + 1)))) ∧ (a0 ≤ wr ((s 120 0) - 1) → (0 ≤ a0 ∧ a0 < 6) ∧ ((rgP (vw 121 (upS s 120 10 0)) a0.toNat) ∧ ((0 ≤ vw 121 (upS s 120 10 0) 2 a0.toNat ∧ vw 121 (upS s 120 10 0) 2 a0.toNat ≤ 2000) ∧ ((0 ≤ vw 121 (upS s 120 10 0) 4 a0.toNat ∧ vw 121 (upS s 120 10 0) 4 a0.toNat ≤ 99) ∧ ((rgP (vw 121 (upS (upS s 120 10 0) 123 a0.toNat (min 999 (wr ((s 123 a0.toNat) + 10))))) a0.toNat) ∧ ((0 ≤ vw 121 (upS (upS s 120 10 0) 123 a0.toNat (min 999 (wr ((s 123 a0.toNat) + 10)))) 2 a0.toNat ∧ vw 121 (upS (upS s 120 10 0) 123 a0.toNat (min 999 (wr ((s 123 a0.toNat) + 10)))) 2 a0.toNat ≤ 2000) ∧ ((0 ≤ vw 121 (upS (upS s 120 10 0) 123 a0.toNat (min 999 (wr ((s 123 a0.toNat) + 10)))) 4 a0.toNat ∧ vw 121 (upS (upS s 120 10 0) 123 a0.toNat (min 999 (wr ((s 123 a0.toNat) + 10)))) 4 a0.toNat ≤ 99) ∧ (Q [(1, wr ((lsW (vw 121 (upS s 120 10 0)) a0.toNat) - (lsW (vw 121 (upS (upS s 120 10 0) 123 a0.toNat (min 999 (wr ((s 123 a0.toNat) + 10))))) a0.toNat)))] (n, upS (upS (upS s 120 10 0) 123 a0.toNat (min 999 (wr ((s 123 a0.toNat) + 10)))) 123 a0.toNat (s 123 a0.toNat)))))))))))) :
    G 120 140 162 0 [(3, 120), (1, a0), (0, 0), (0, 0), (0, 0)] [] (n, s) Q := by
  refine G_go rfl rfl ?_
  refine G_go rfl rfl ?_
  refine G_wr rfl rfl (by decide) ?_
  have hR := refs_up (a := 120) (k := 10) (x := 0) hR rfl
  refine G_go rfl rfl ?_
  refine G_go rfl rfl ?_
  refine G_call rfl rfl ?_
  refine G_go rfl rfl ?_
  refine G_go rfl rfl ?_
  refine G_go rfl rfl ?_
  refine G_go rfl rfl ?_
  refine G_rd rfl rfl (by decide) ?_
  refine G_go rfl rfl ?_
  refine G_go rfl rfl ?_
  refine G_go rfl rfl ?_
  refine G_call rfl rfl ?_
  refine G_go rfl rfl ?_
  refine G_go rfl rfl ?_
  refine G_go rfl rfl ?_
  refine G_lt rfl rfl (fun c1 => ?_) (fun c1 => ?_)
  · have c1 := xl_lt c1
    have h := h.1 c1
    refine G_go rfl rfl ?_
    refine G_ret rfl rfl ?_
    refine G_ret rfl rfl ?_
    refine G_brF rfl rfl rfl ?_
    refine G_go rfl rfl ?_
    refine G_go rfl rfl ?_
    refine G_go rfl rfl ?_
    refine G_call rfl rfl ?_
    refine G_go rfl rfl ?_
    refine G_rf rfl rfl (by decide) (hR 120 11 129 rfl) ?_
    refine G_go rfl rfl ?_
    refine G_go rfl rfl ?_
    refine G_go rfl rfl ?_
    refine G_ir (n := 7) rfl rfl (by decide) (by decide) (by decide) ?_
    refine G_go rfl rfl ?_
    refine G_go rfl rfl ?_
    refine G_iw (n := 7) rfl rfl (by decide) (by decide) (by decide) ?_
    have hR := refs_up (a := 129) (k := 1) (x := wr ((s 129 1) + 1)) hR rfl
    refine G_go rfl rfl ?_
    refine G_ret rfl rfl ?_
    refine G_go rfl rfl ?_
    exact G_ret rfl rfl h
  · have c1 := xl_ge c1
    have h := h.2 c1
    refine G_go rfl rfl ?_
    refine G_go rfl rfl ?_
    refine G_go rfl rfl ?_
    refine G_gt rfl rfl (fun c2 => ?_) (fun c2 => ?_)
    · have c2 := xl_gt c2
      have h := h.1 c2
      refine G_go rfl rfl ?_
      refine G_ret rfl rfl ?_
      refine G_ret rfl rfl ?_
      refine G_brF rfl rfl rfl ?_
      refine G_go rfl rfl ?_
      refine G_go rfl rfl ?_
      refine G_go rfl rfl ?_
      refine G_call rfl rfl ?_
      refine G_go rfl rfl ?_
      refine G_rf rfl rfl (by decide) (hR 120 11 129 rfl) ?_
      refine G_go rfl rfl ?_
      refine G_go rfl rfl ?_
      refine G_go rfl rfl ?_
      refine G_ir (n := 7) rfl rfl (by decide) (by decide) (by decide) ?_
      refine G_go rfl rfl ?_
      refine G_go rfl rfl ?_
      refine G_iw (n := 7) rfl rfl (by decide) (by decide) (by decide) ?_
      have hR := refs_up (a := 129) (k := 1) (x := wr ((s 129 1) + 1)) hR rfl
      refine G_go rfl rfl ?_
      refine G_ret rfl rfl ?_
      refine G_go rfl rfl ?_
      exact G_ret rfl rfl h
    · have c2 := xl_le c2
      have h := h.2 c2
      refine G_go rfl rfl ?_
      refine G_go rfl rfl ?_
      refine G_ret rfl rfl ?_
      refine G_ret rfl rfl ?_
      refine G_brT rfl rfl rfl ?_
      refine G_go rfl rfl ?_
      refine G_go rfl rfl ?_
      refine G_call rfl rfl ?_
      obtain ⟨g3, h⟩ := h
      obtain ⟨g4, h⟩ := h
      obtain ⟨g5, h⟩ := h
      obtain ⟨g6, h⟩ := h
      refine c_X7_lastsOf n _ _ a0 hR g3 g4 g5 g6 ?_
      refine G_go rfl rfl ?_
      refine G_go rfl rfl ?_
      refine G_rf rfl rfl (by decide) (hR 120 3 123 rfl) ?_
      refine G_go rfl rfl ?_
      refine G_ir (n := 6) rfl rfl (by decide) (by decide) g3 ?_
      refine G_go rfl rfl ?_
      refine G_go rfl rfl ?_
      refine G_rf rfl rfl (by decide) (hR 120 3 123 rfl) ?_
      refine G_go rfl rfl ?_
      refine G_go rfl rfl ?_
      refine G_go rfl rfl ?_
      refine G_go rfl rfl ?_
      refine G_go rfl rfl ?_
      refine G_call rfl rfl ?_
      refine c_X7_least n _ _ 999 (wr ((s 123 a0.toNat) + 10)) hR ?_
      refine G_iw (n := 6) rfl rfl (by decide) (by decide) g3 ?_
      have hR := refs_up (a := 123) (k := a0.toNat) (x := min 999 (wr ((s 123 a0.toNat) + 10))) hR rfl
      refine G_go rfl rfl ?_
      refine G_go rfl rfl ?_
      refine G_call rfl rfl ?_
      obtain ⟨g7, h⟩ := h
      obtain ⟨g8, h⟩ := h
      obtain ⟨g9, h⟩ := h
      refine c_X7_lastsOf n _ _ a0 hR g3 g7 g8 g9 ?_
      refine G_go rfl rfl ?_
      refine G_go rfl rfl ?_
      refine G_rf rfl rfl (by decide) (hR 120 3 123 rfl) ?_
      refine G_go rfl rfl ?_
      refine G_go rfl rfl ?_
      refine G_iw (n := 6) rfl rfl (by decide) (by decide) g3 ?_
      have hR := refs_up (a := 123) (k := a0.toNat) (x := s 123 a0.toNat) hR rfl
      refine G_go rfl rfl ?_
      refine G_go rfl rfl ?_
      refine G_go rfl rfl ?_
      exact G_ret rfl rfl h
/-! APART -/
def apF (t : Nat → Nat → Int) (k : Nat) (b : Int × Int) : Int × Int := if k = 0 then (wlW (vw 121 t) k, wlW (vw 121 t) k) else (max b.1 (wlW (vw 121 t) k), min b.2 (wlW (vw 121 t) k))
def apV (t : Nat → Nat → Int) : Int := wr ((itr (apF t) (0, 0) (t 120 0).toNat).1 - (itr (apF t) (0, 0) (t 120 0).toNat).2)
theorem cl_apart (n : Nat) (s t : Nat → Nat → Int) (h : REL s t) (Q : List Vl → Sto → Prop) (hq : Q [(1, apV t)] (n, s)) : G 2 120 64 0 [(3, 2), (0, 0), (0, 0), (0, 0)] [] (n, s) Q := by
  obtain ⟨hn1, hn2, hn3, hn4⟩ := h.np
  refine sb_X6_apart_0 n s Q h.1 ⟨fun c => ?_, fun c => ?_⟩
  · have hp : ((0 : Nat) : Int) < t 120 0 := by omega
    obtain ⟨⟨g1, g2⟩, _, g3, g4, g5, g6⟩ := h.rg 0 hp
    refine ⟨g1, g3, g2, ?_⟩
    rw [h.wl 0 hp]
    obtain ⟨N, hN⟩ : ∃ N, (t 120 0).toNat = N + 1 := ⟨(t 120 0).toNat - 1, by omega⟩
    refine G_up N (fun k b => G 2 120 64 25 [(3, 2), (1, b.1), (1, b.2), (1, ((k + 1 : Nat) : Int))] [] (n, s) Q) (fun k b => apF t (k + 1) b) (fun _ _ => True) (wlW (vw 121 t) 0, wlW (vw 121 t) 0) trivial (fun _ _ _ _ => trivial) (fun k b hk _ hg => ?_) (fun _ => ?_)
    · have hp : ((k + 1 : Nat) : Int) < t 120 0 := by omega
      obtain ⟨⟨g1, g2⟩, _, g3, g4, g5, g6⟩ := h.rg (k + 1) hp
      rw [← wr_s (show k + 1 < N + 1 by omega) (by omega)] at hg
      refine sb_X6_apart_25 n s Q _ _ _ h.1 ⟨fun e => by omega, fun _ => ?_⟩
      rw [Int.toNat_natCast, h.wl (k + 1) hp]
      refine ⟨by omega, g1, g3, g2, ?_⟩
      exact hg
    · refine sb_X6_apart_25 n s Q _ _ _ h.1 ⟨fun _ => ?_, fun e => by omega⟩
      have e : ∀ M, itr (fun k b => apF t (k + 1) b) (wlW (vw 121 t) 0, wlW (vw 121 t) 0) M = itr (apF t) (0, 0) (M + 1) := by
        intro M
        induction M with
        | zero => rfl
        | succ M ih => show apF t (M + 1) _ = apF t (M + 1) _; rw [ih]
      rw [e N]
      unfold apV at hq
      rw [hN] at hq
      exact hq
  · unfold apV at hq
    rw [show (t 120 0).toNat = 0 by omega] at hq
    exact Qe hq (show (0 : Int) = wr (0 - 0) by decide)
theorem rl_apart (n : Nat) (s t : Nat → Nat → Int) (h : REL s t) (Q : List Vl → Sto → Prop) (hq : Q [(1, apV t)] (n, t)) : G 120 140 154 11 [(3, 120), (1, 0), (1, 0), (1, 0), (0, 0)] [] (n, t) Q := by
  obtain ⟨hn1, hn2, hn3, hn4⟩ := h.np
  refine G_up (t 120 0).toNat (fun k b => ∀ w, G 120 140 154 11 [(3, 120), (1, b.1), (1, b.2), (1, (k : Int)), w] [] (n, t) Q) (apF t) (fun _ _ => True) (0, 0) trivial (fun _ _ _ _ => trivial) (fun k b hk _ hg w => ?_) (fun _ w => ?_) (0, 0)
  · have hp : (k : Int) < t 120 0 := by omega
    obtain ⟨_, g2, _, g4, g5, g6⟩ := h.rg k hp
    rw [← wr_s hk (by omega)] at hg
    refine sb_X7_apart_11 n t Q _ _ k w h.2.1 ⟨fun e => by omega, fun _ => ?_⟩
    rw [Int.toNat_natCast]
    refine ⟨by omega, g2, g4, fun c => ?_, fun c => ⟨fun d => ⟨fun e => ?_, fun e => ?_⟩, fun d => ⟨fun e => ?_, fun e => ?_⟩⟩⟩
    · rw [show apF t k b = _ from if_pos (by omega)] at hg
      exact hg _
    all_goals rw [show apF t k b = _ from if_neg (by omega)] at hg
    · rw [show max b.1 (wlW (vw 121 t) k) = b.1 by omega, show min b.2 (wlW (vw 121 t) k) = b.2 by omega] at hg
      exact hg _
    · rw [show max b.1 (wlW (vw 121 t) k) = b.1 by omega, show min b.2 (wlW (vw 121 t) k) = wlW (vw 121 t) k by omega] at hg
      exact hg _
    · rw [show max b.1 (wlW (vw 121 t) k) = wlW (vw 121 t) k by omega, show min b.2 (wlW (vw 121 t) k) = b.2 by omega] at hg
      exact hg _
    · rw [show max b.1 (wlW (vw 121 t) k) = wlW (vw 121 t) k by omega, show min b.2 (wlW (vw 121 t) k) = wlW (vw 121 t) k by omega] at hg
      exact hg _
  · exact sb_X7_apart_11 n t Q _ _ _ w h.2.1 ⟨fun _ => hq, fun e => by omega⟩
theorem op_apart (n : Nat) (s t : Nat → Nat → Int) (h : REL s t) : G 2 120 64 0 [(3, 2), (0, 0), (0, 0), (0, 0)] [] (n, s) (fun r s1 => G 120 140 154 0 [(3, 120), (0, 0), (0, 0), (0, 0), (0, 0)] [] (n, t) (Post n r s1)) :=
  cl_apart n s _ h.up _ (sb_X7_apart_0 n t _ h.2.1 (rl_apart n s _ h.up _ (post_same h rfl)))
/-! BORROW -/
theorem lsV_c {V : Nat → Nat → Int} {p : Nat} {s : Nat → Nat → Int} {x : Int} (e : V = vw 121 s) : lsW (vw 121 (upS s 123 p x)) p = lsV V p x := by
  subst e
  unfold lsW lsV bnV vw upS
  simp
theorem rgP_c {p : Nat} {s : Nat → Nat → Int} {x : Int} (g : rgP (vw 121 s) p) : rgP (vw 121 (upS s 123 p x)) p := by
  unfold rgP vw upS at *
  simpa using g
theorem upS_back {s : Nat → Nat → Int} {a p : Nat} {x y : Int} (e : y = s a p) : upS (upS s a p x) a p y = s := by
  funext i j
  simp only [upS]
  by_cases c : i = a ∧ j = p
  · obtain ⟨rfl, rfl⟩ := c
    simp [e]
  · by_cases c1 : i = a <;> by_cases c2 : j = p <;> simp_all
theorem op_borrow (n : Nat) (s t : Nat → Nat → Int) (h : REL s t) (a0 : Int) : G 2 120 72 0 [(3, 2), (1, a0), (0, 0)] [] (n, s) (fun r s1 => G 120 140 162 0 [(3, 120), (1, a0), (0, 0), (0, 0), (0, 0)] [] (n, t) (Post n r s1)) := by
  obtain ⟨hn1, hn2, hn3, hn4⟩ := h.np
  have hw : wr (t 120 0 - 1) = t 120 0 - 1 := wr_id (by omega) (by omega)
  have h1 : ∀ z : Int, 0 ≤ z → z < t 120 0 → ∃ p : Nat, z = p ∧ (p : Int) < t 120 0 := fun z h1 h2 => ⟨z.toNat, by omega, by omega⟩
  refine sb_X6_borrow_0 n s _ a0 h.1 ⟨fun c => ?_, fun c => ⟨fun d => ?_, fun d => ?_⟩⟩
  · refine sb_X7_borrow_0 n t _ a0 h.2.1 ⟨fun c => post_ref h 1 (by decide), fun e => by omega⟩
  · refine sb_X7_borrow_0 n t _ a0 h.2.1 ⟨fun c => by omega, fun e => ⟨fun f => post_ref h 1 (by decide), fun f => by omega⟩⟩
  · obtain ⟨p, rfl, hp⟩ := h1 a0 c (by omega)
    obtain ⟨g1, g2, g3, g4, g5, g6⟩ := h.rg p hp
    have ht := h.t p hp
    have hs := h.s p hp
    rw [Int.toNat_natCast, wr_id (by omega) (by omega)]
    refine ⟨by omega, g1, g3, g5, by omega, ?_⟩
    refine sb_X7_borrow_0 n t _ _ h.2.1 ⟨fun c => by omega, fun e => ⟨fun f => by omega, fun f => ?_⟩⟩
    rw [Int.toNat_natCast, wr_id (by omega) (by omega)]
    rw [upS_back (s := upS t 120 10 0) (show t 123 p = upS t 120 10 0 123 p from rfl), lsV_c rfl, vw_120]
    refine ⟨by omega, g2, g4, g6, rgP_c (by rw [vw_120]; exact g2), ?_, ?_, ?_⟩
    · show 0 ≤ upS (upS t 120 10 0) 123 p (min 999 (t 123 p + 10)) 123 p ∧ upS (upS t 120 10 0) 123 p (min 999 (t 123 p + 10)) 123 p ≤ 2000
      simp [upS]
      omega
    · show 0 ≤ upS (upS t 120 10 0) 123 p (min 999 (t 123 p + 10)) 125 p ∧ upS (upS t 120 10 0) 123 p (min 999 (t 123 p + 10)) 125 p ≤ 99
      simp [upS]
      omega
    · refine post_same h ?_
      rw [h.ls p hp, hs.2.2.1]
      rfl
end
section
theorem sb_X6_hide_0 (n : Nat) (s : Nat → Nat → Int) (Q : List Vl → Sto → Prop) (a0 : Int) (hR : refs s)
    (h : (a0 < 0 → Q [(1, (-1))] (n, upS s 119 1 (wr ((s 119 1) + 1)))) ∧ (0 ≤ a0 → (s 3 9 ≤ a0 → Q [(1, (-1))] (n, upS s 119 1 (wr ((s 119 1) + 1)))) ∧ (a0 < s 3 9 → (0 ≤ a0 ∧ a0 < 6) ∧ ((0 ≤ s 5 a0.toNat ∧ s 5 a0.toNat ≤ 9) ∧ ((0 ≤ s 6 a0.toNat ∧ s 6 a0.toNat ≤ 2000) ∧ ((0 ≤ s 7 a0.toNat ∧ s 7 a0.toNat ≤ 200) ∧ (G 2 120 90 75 [(3, 2), (1, a0), (1, 0), (1, s 4 a0.toNat), (1, s 5 a0.toNat), (1, s 6 a0.toNat), (1, s 7 a0.toNat), (1, 0), (1, wlt (s 4 a0.toNat) (s 5 a0.toNat) (s 6 a0.toNat) (s 7 a0.toNat)), (1, 1), (0, 0)] [] (n, s) Q))))))) :
    G 2 120 90 0 [(3, 2), (1, a0), (0, 0), (0, 0), (0, 0), (0, 0), (0, 0), (0, 0), (0, 0), (0, 0), (0, 0)] [] (n, s) Q := by
  refine G_go rfl rfl ?_
  refine G_go rfl rfl ?_
  refine G_call rfl rfl ?_
  refine G_go rfl rfl ?_
  refine G_rf rfl rfl (by decide) (hR 2 0 3 rfl) ?_
  refine G_go rfl rfl ?_
  refine G_call rfl rfl ?_
  refine G_go rfl rfl ?_
  refine G_lt rfl rfl (fun c1 => ?_) (fun c1 => ?_)
  · have h := h.1 c1
    refine G_go rfl rfl ?_
    refine G_ret rfl rfl ?_
    refine G_brT rfl rfl rfl ?_
    refine G_go rfl rfl ?_
    refine G_ret rfl rfl ?_
    refine G_go rfl rfl ?_
    show G 2 120 90 6 [(3, 2), (1, a0), (1, (-1)), (0, 0), (0, 0), (0, 0), (0, 0), (0, 0), (0, 0), (0, 0), (0, 0)] [] (n, s) Q
    refine G_go rfl rfl ?_
    refine G_brF rfl rfl rfl ?_
    refine G_go rfl rfl ?_
    refine G_go rfl rfl ?_
    refine G_call rfl rfl ?_
    refine G_go rfl rfl ?_
    refine G_go rfl rfl ?_
    refine G_go rfl rfl ?_
    refine G_go rfl rfl ?_
    refine G_brF rfl rfl rfl ?_
    refine G_go rfl rfl ?_
    refine G_go rfl rfl ?_
    refine G_rf rfl rfl (by decide) (hR 2 7 119 rfl) ?_
    refine G_go rfl rfl ?_
    refine G_brF rfl rfl rfl ?_
    refine G_go rfl rfl ?_
    refine G_rf rfl rfl (by decide) (hR 2 7 119 rfl) ?_
    refine G_go rfl rfl ?_
    refine G_go rfl rfl ?_
    refine G_ir (n := 7) rfl rfl (by decide) (by decide) (by decide) ?_
    refine G_go rfl rfl ?_
    refine G_go rfl rfl ?_
    refine G_iw (n := 7) rfl rfl (by decide) (by decide) (by decide) ?_
    have hR := refs_up (a := 119) (k := 1) (x := wr ((s 119 1) + 1)) hR rfl
    refine G_go rfl rfl ?_
    refine G_ret rfl rfl ?_
    exact G_ret rfl rfl h
  · have h := h.2 c1
    refine G_go rfl rfl ?_
    refine G_go rfl rfl ?_
    refine G_rd rfl rfl (by decide) ?_
    refine G_ge rfl rfl (fun c2 => ?_) (fun c2 => ?_)
    · have h := h.1 c2
      refine G_go rfl rfl ?_
      refine G_ret rfl rfl ?_
      refine G_brT rfl rfl rfl ?_
      refine G_go rfl rfl ?_
      refine G_ret rfl rfl ?_
      refine G_go rfl rfl ?_
      show G 2 120 90 6 [(3, 2), (1, a0), (1, (-1)), (0, 0), (0, 0), (0, 0), (0, 0), (0, 0), (0, 0), (0, 0), (0, 0)] [] (n, s) Q
      refine G_go rfl rfl ?_
      refine G_brF rfl rfl rfl ?_
      refine G_go rfl rfl ?_
      refine G_go rfl rfl ?_
      refine G_call rfl rfl ?_
      refine G_go rfl rfl ?_
      refine G_go rfl rfl ?_
      refine G_go rfl rfl ?_
      refine G_go rfl rfl ?_
      refine G_brF rfl rfl rfl ?_
      refine G_go rfl rfl ?_
      refine G_go rfl rfl ?_
      refine G_rf rfl rfl (by decide) (hR 2 7 119 rfl) ?_
      refine G_go rfl rfl ?_
      refine G_brF rfl rfl rfl ?_
      refine G_go rfl rfl ?_
      refine G_rf rfl rfl (by decide) (hR 2 7 119 rfl) ?_
      refine G_go rfl rfl ?_
      refine G_go rfl rfl ?_
      refine G_ir (n := 7) rfl rfl (by decide) (by decide) (by decide) ?_
      refine G_go rfl rfl ?_
      refine G_go rfl rfl ?_
      refine G_iw (n := 7) rfl rfl (by decide) (by decide) (by decide) ?_
      have hR := refs_up (a := 119) (k := 1) (x := wr ((s 119 1) + 1)) hR rfl
      refine G_go rfl rfl ?_
      refine G_ret rfl rfl ?_
      exact G_ret rfl rfl h
    · have h := h.2 c2
      refine G_go rfl rfl ?_
      refine G_go rfl rfl ?_
      refine G_ret rfl rfl ?_
      refine G_brF rfl rfl rfl ?_
      refine G_go rfl rfl ?_
      refine G_go rfl rfl ?_
      refine G_ret rfl rfl ?_
      refine G_go rfl rfl ?_
      show G 2 120 90 6 [(3, 2), (1, a0), (1, 0), (0, 0), (0, 0), (0, 0), (0, 0), (0, 0), (0, 0), (0, 0), (0, 0)] [] (n, s) Q
      refine G_go rfl rfl ?_
      refine G_brT rfl rfl rfl ?_
      refine G_go rfl rfl ?_
      refine G_rf rfl rfl (by decide) (hR 2 0 3 rfl) ?_
      refine G_rf rfl rfl (by decide) (hR 3 0 4 rfl) ?_
      refine G_go rfl rfl ?_
      obtain ⟨g3, h⟩ := h
      refine G_ir (n := 6) rfl rfl (by decide) (by decide) g3 ?_
      refine G_go rfl rfl ?_
      show G 2 120 90 26 [(3, 2), (1, a0), (1, 0), (1, s 4 a0.toNat), (0, 0), (0, 0), (0, 0), (0, 0), (0, 0), (0, 0), (0, 0)] [] (n, s) Q
      refine G_go rfl rfl ?_
      refine G_rf rfl rfl (by decide) (hR 2 0 3 rfl) ?_
      refine G_rf rfl rfl (by decide) (hR 3 1 5 rfl) ?_
      refine G_go rfl rfl ?_
      refine G_ir (n := 6) rfl rfl (by decide) (by decide) g3 ?_
      refine G_go rfl rfl ?_
      show G 2 120 90 37 [(3, 2), (1, a0), (1, 0), (1, s 4 a0.toNat), (1, s 5 a0.toNat), (0, 0), (0, 0), (0, 0), (0, 0), (0, 0), (0, 0)] [] (n, s) Q
      refine G_go rfl rfl ?_
      refine G_rf rfl rfl (by decide) (hR 2 0 3 rfl) ?_
      refine G_rf rfl rfl (by decide) (hR 3 2 6 rfl) ?_
      refine G_go rfl rfl ?_
      refine G_ir (n := 6) rfl rfl (by decide) (by decide) g3 ?_
      refine G_go rfl rfl ?_
      show G 2 120 90 48 [(3, 2), (1, a0), (1, 0), (1, s 4 a0.toNat), (1, s 5 a0.toNat), (1, s 6 a0.toNat), (0, 0), (0, 0), (0, 0), (0, 0), (0, 0)] [] (n, s) Q
      refine G_go rfl rfl ?_
      refine G_rf rfl rfl (by decide) (hR 2 0 3 rfl) ?_
      refine G_rf rfl rfl (by decide) (hR 3 3 7 rfl) ?_
      refine G_go rfl rfl ?_
      refine G_ir (n := 6) rfl rfl (by decide) (by decide) g3 ?_
      refine G_go rfl rfl ?_
      show G 2 120 90 59 [(3, 2), (1, a0), (1, 0), (1, s 4 a0.toNat), (1, s 5 a0.toNat), (1, s 6 a0.toNat), (1, s 7 a0.toNat), (0, 0), (0, 0), (0, 0), (0, 0)] [] (n, s) Q
      refine G_go rfl rfl ?_
      refine G_go rfl rfl ?_
      show G 2 120 90 62 [(3, 2), (1, a0), (1, 0), (1, s 4 a0.toNat), (1, s 5 a0.toNat), (1, s 6 a0.toNat), (1, s 7 a0.toNat), (1, 0), (0, 0), (0, 0), (0, 0)] [] (n, s) Q
      refine G_go rfl rfl ?_
      refine G_rf rfl rfl (by decide) (hR 2 0 3 rfl) ?_
      refine G_go rfl rfl ?_
      refine G_call rfl rfl ?_
      refine G_go rfl rfl ?_
      refine G_rf rfl rfl (by decide) (hR 3 0 4 rfl) ?_
      refine G_go rfl rfl ?_
      refine G_ir (n := 6) rfl rfl (by decide) (by decide) g3 ?_
      refine G_go rfl rfl ?_
      refine G_rf rfl rfl (by decide) (hR 3 1 5 rfl) ?_
      refine G_go rfl rfl ?_
      refine G_ir (n := 6) rfl rfl (by decide) (by decide) g3 ?_
      refine G_go rfl rfl ?_
      refine G_rf rfl rfl (by decide) (hR 3 2 6 rfl) ?_
      refine G_go rfl rfl ?_
      refine G_ir (n := 6) rfl rfl (by decide) (by decide) g3 ?_
      refine G_go rfl rfl ?_
      refine G_rf rfl rfl (by decide) (hR 3 3 7 rfl) ?_
      refine G_go rfl rfl ?_
      refine G_ir (n := 6) rfl rfl (by decide) (by decide) g3 ?_
      refine G_call rfl rfl ?_
      obtain ⟨g4, h⟩ := h
      obtain ⟨g5, h⟩ := h
      obtain ⟨g6, h⟩ := h
      refine c_X1_wealth n _ _ (s 4 a0.toNat) (s 5 a0.toNat) (s 6 a0.toNat) (s 7 a0.toNat) hR g4 g5 g6 ?_
      refine G_ret rfl rfl ?_
      refine G_go rfl rfl ?_
      show G 2 120 90 72 [(3, 2), (1, a0), (1, 0), (1, s 4 a0.toNat), (1, s 5 a0.toNat), (1, s 6 a0.toNat), (1, s 7 a0.toNat), (1, 0), (1, wlt (s 4 a0.toNat) (s 5 a0.toNat) (s 6 a0.toNat) (s 7 a0.toNat)), (0, 0), (0, 0)] [] (n, s) Q
      refine G_go rfl rfl ?_
      refine G_go rfl rfl ?_
      show G 2 120 90 75 [(3, 2), (1, a0), (1, 0), (1, s 4 a0.toNat), (1, s 5 a0.toNat), (1, s 6 a0.toNat), (1, s 7 a0.toNat), (1, 0), (1, wlt (s 4 a0.toNat) (s 5 a0.toNat) (s 6 a0.toNat) (s 7 a0.toNat)), (1, 1), (0, 0)] [] (n, s) Q
      exact h
theorem sb_X6_hide_6 (n : Nat) (s : Nat → Nat → Int) (Q : List Vl → Sto → Prop) (x1 : Int) (x2 : Int) (hR : refs s)
    (h : (x2 = 0 → (0 ≤ x1 ∧ x1 < 6) ∧ ((0 ≤ s 5 x1.toNat ∧ s 5 x1.toNat ≤ 9) ∧ ((0 ≤ s 6 x1.toNat ∧ s 6 x1.toNat ≤ 2000) ∧ ((0 ≤ s 7 x1.toNat ∧ s 7 x1.toNat ≤ 200) ∧ (G 2 120 90 75 [(3, 2), (1, x1), (1, x2), (1, s 4 x1.toNat), (1, s 5 x1.toNat), (1, s 6 x1.toNat), (1, s 7 x1.toNat), (1, 0), (1, wlt (s 4 x1.toNat) (s 5 x1.toNat) (s 6 x1.toNat) (s 7 x1.toNat)), (1, 1), (0, 0)] [] (n, s) Q))))) ∧ (x2 ≠ 0 → (wr (-x2) ≤ 0 → Q [(1, x2)] (n, s)) ∧ (0 < wr (-x2) → (7 ≤ wr (-x2) → Q [(1, x2)] (n, s)) ∧ (wr (-x2) < 7 → (0 ≤ wr (-x2) ∧ wr (-x2) < 7) ∧ (Q [(1, x2)] (n, upS s 119 ((wr (-x2)).toNat) (wr ((s 119 ((wr (-x2)).toNat)) + 1)))))))) :
    G 2 120 90 6 [(3, 2), (1, x1), (1, x2), (0, 0), (0, 0), (0, 0), (0, 0), (0, 0), (0, 0), (0, 0), (0, 0)] [] (n, s) Q := by
  refine G_go rfl rfl ?_
  refine G_eq rfl rfl (fun c1 => ?_) (fun c1 => ?_)
  · have h := h.1 c1
    refine G_go rfl rfl ?_
    refine G_rf rfl rfl (by decide) (hR 2 0 3 rfl) ?_
    refine G_rf rfl rfl (by decide) (hR 3 0 4 rfl) ?_
    refine G_go rfl rfl ?_
    obtain ⟨g2, h⟩ := h
    refine G_ir (n := 6) rfl rfl (by decide) (by decide) g2 ?_
    refine G_go rfl rfl ?_
    show G 2 120 90 26 [(3, 2), (1, x1), (1, x2), (1, s 4 x1.toNat), (0, 0), (0, 0), (0, 0), (0, 0), (0, 0), (0, 0), (0, 0)] [] (n, s) Q
    refine G_go rfl rfl ?_
    refine G_rf rfl rfl (by decide) (hR 2 0 3 rfl) ?_
    refine G_rf rfl rfl (by decide) (hR 3 1 5 rfl) ?_
    refine G_go rfl rfl ?_
    refine G_ir (n := 6) rfl rfl (by decide) (by decide) g2 ?_
    refine G_go rfl rfl ?_
    show G 2 120 90 37 [(3, 2), (1, x1), (1, x2), (1, s 4 x1.toNat), (1, s 5 x1.toNat), (0, 0), (0, 0), (0, 0), (0, 0), (0, 0), (0, 0)] [] (n, s) Q
    refine G_go rfl rfl ?_
    refine G_rf rfl rfl (by decide) (hR 2 0 3 rfl) ?_
    refine G_rf rfl rfl (by decide) (hR 3 2 6 rfl) ?_
    refine G_go rfl rfl ?_
    refine G_ir (n := 6) rfl rfl (by decide) (by decide) g2 ?_
    refine G_go rfl rfl ?_
    show G 2 120 90 48 [(3, 2), (1, x1), (1, x2), (1, s 4 x1.toNat), (1, s 5 x1.toNat), (1, s 6 x1.toNat), (0, 0), (0, 0), (0, 0), (0, 0), (0, 0)] [] (n, s) Q
    refine G_go rfl rfl ?_
    refine G_rf rfl rfl (by decide) (hR 2 0 3 rfl) ?_
    refine G_rf rfl rfl (by decide) (hR 3 3 7 rfl) ?_
    refine G_go rfl rfl ?_
    refine G_ir (n := 6) rfl rfl (by decide) (by decide) g2 ?_
    refine G_go rfl rfl ?_
    show G 2 120 90 59 [(3, 2), (1, x1), (1, x2), (1, s 4 x1.toNat), (1, s 5 x1.toNat), (1, s 6 x1.toNat), (1, s 7 x1.toNat), (0, 0), (0, 0), (0, 0), (0, 0)] [] (n, s) Q
    refine G_go rfl rfl ?_
    refine G_go rfl rfl ?_
    show G 2 120 90 62 [(3, 2), (1, x1), (1, x2), (1, s 4 x1.toNat), (1, s 5 x1.toNat), (1, s 6 x1.toNat), (1, s 7 x1.toNat), (1, 0), (0, 0), (0, 0), (0, 0)] [] (n, s) Q
    refine G_go rfl rfl ?_
    refine G_rf rfl rfl (by decide) (hR 2 0 3 rfl) ?_
    refine G_go rfl rfl ?_
    refine G_call rfl rfl ?_
    refine G_go rfl rfl ?_
    refine G_rf rfl rfl (by decide) (hR 3 0 4 rfl) ?_
    refine G_go rfl rfl ?_
    refine G_ir (n := 6) rfl rfl (by decide) (by decide) g2 ?_
    refine G_go rfl rfl ?_
    refine G_rf rfl rfl (by decide) (hR 3 1 5 rfl) ?_
    refine G_go rfl rfl ?_
    refine G_ir (n := 6) rfl rfl (by decide) (by decide) g2 ?_
    refine G_go rfl rfl ?_
    refine G_rf rfl rfl (by decide) (hR 3 2 6 rfl) ?_
    refine G_go rfl rfl ?_
    refine G_ir (n := 6) rfl rfl (by decide) (by decide) g2 ?_
    refine G_go rfl rfl ?_
    refine G_rf rfl rfl (by decide) (hR 3 3 7 rfl) ?_
    refine G_go rfl rfl ?_
    refine G_ir (n := 6) rfl rfl (by decide) (by decide) g2 ?_
    refine G_call rfl rfl ?_
    obtain ⟨g3, h⟩ := h
    obtain ⟨g4, h⟩ := h
    obtain ⟨g5, h⟩ := h
    refine c_X1_wealth n _ _ (s 4 x1.toNat) (s 5 x1.toNat) (s 6 x1.toNat) (s 7 x1.toNat) hR g3 g4 g5 ?_
    refine G_ret rfl rfl ?_
    refine G_go rfl rfl ?_
    show G 2 120 90 72 [(3, 2), (1, x1), (1, x2), (1, s 4 x1.toNat), (1, s 5 x1.toNat), (1, s 6 x1.toNat), (1, s 7 x1.toNat), (1, 0), (1, wlt (s 4 x1.toNat) (s 5 x1.toNat) (s 6 x1.toNat) (s 7 x1.toNat)), (0, 0), (0, 0)] [] (n, s) Q
    refine G_go rfl rfl ?_
    refine G_go rfl rfl ?_
    show G 2 120 90 75 [(3, 2), (1, x1), (1, x2), (1, s 4 x1.toNat), (1, s 5 x1.toNat), (1, s 6 x1.toNat), (1, s 7 x1.toNat), (1, 0), (1, wlt (s 4 x1.toNat) (s 5 x1.toNat) (s 6 x1.toNat) (s 7 x1.toNat)), (1, 1), (0, 0)] [] (n, s) Q
    exact h
  · have h := h.2 c1
    refine G_go rfl rfl ?_
    refine G_go rfl rfl ?_
    refine G_call rfl rfl ?_
    refine G_go rfl rfl ?_
    refine G_go rfl rfl ?_
    refine G_go rfl rfl ?_
    refine G_go rfl rfl ?_
    refine G_le rfl rfl (fun c6 => ?_) (fun c6 => ?_)
    · have h := h.1 c6
      refine G_go rfl rfl ?_
      refine G_ret rfl rfl ?_
      exact G_ret rfl rfl h
    · have h := h.2 c6
      refine G_go rfl rfl ?_
      refine G_go rfl rfl ?_
      refine G_rf rfl rfl (by decide) (hR 2 7 119 rfl) ?_
      refine G_go rfl rfl ?_
      refine G_ge rfl rfl (fun c7 => ?_) (fun c7 => ?_)
      · have h := h.1 c7
        refine G_go rfl rfl ?_
        refine G_ret rfl rfl ?_
        exact G_ret rfl rfl h
      · have h := h.2 c7
        refine G_go rfl rfl ?_
        refine G_rf rfl rfl (by decide) (hR 2 7 119 rfl) ?_
        refine G_go rfl rfl ?_
        refine G_go rfl rfl ?_
        obtain ⟨g8, h⟩ := h
        refine G_ir (n := 7) rfl rfl (by decide) (by decide) g8 ?_
        refine G_go rfl rfl ?_
        refine G_go rfl rfl ?_
        refine G_iw (n := 7) rfl rfl (by decide) (by decide) g8 ?_
        have hR := refs_up (a := 119) (k := (wr (-x2)).toNat) (x := wr ((s 119 ((wr (-x2)).toNat)) + 1)) hR rfl
        refine G_go rfl rfl ?_
        refine G_ret rfl rfl ?_
        exact G_ret rfl rfl h
theorem sb_X6_hide_26 (n : Nat) (s : Nat → Nat → Int) (Q : List Vl → Sto → Prop) (x1 : Int) (x2 : Int) (x3 : Int) (hR : refs s)
    (h : (0 ≤ x1 ∧ x1 < 6) ∧ ((0 ≤ s 5 x1.toNat ∧ s 5 x1.toNat ≤ 9) ∧ ((0 ≤ s 6 x1.toNat ∧ s 6 x1.toNat ≤ 2000) ∧ ((0 ≤ s 7 x1.toNat ∧ s 7 x1.toNat ≤ 200) ∧ (G 2 120 90 75 [(3, 2), (1, x1), (1, x2), (1, x3), (1, s 5 x1.toNat), (1, s 6 x1.toNat), (1, s 7 x1.toNat), (1, 0), (1, wlt (s 4 x1.toNat) (s 5 x1.toNat) (s 6 x1.toNat) (s 7 x1.toNat)), (1, 1), (0, 0)] [] (n, s) Q))))) :
    G 2 120 90 26 [(3, 2), (1, x1), (1, x2), (1, x3), (0, 0), (0, 0), (0, 0), (0, 0), (0, 0), (0, 0), (0, 0)] [] (n, s) Q := by
  refine G_go rfl rfl ?_
  refine G_rf rfl rfl (by decide) (hR 2 0 3 rfl) ?_
  refine G_rf rfl rfl (by decide) (hR 3 1 5 rfl) ?_
  refine G_go rfl rfl ?_
  obtain ⟨g1, h⟩ := h
  refine G_ir (n := 6) rfl rfl (by decide) (by decide) g1 ?_
  refine G_go rfl rfl ?_
  show G 2 120 90 37 [(3, 2), (1, x1), (1, x2), (1, x3), (1, s 5 x1.toNat), (0, 0), (0, 0), (0, 0), (0, 0), (0, 0), (0, 0)] [] (n, s) Q
  refine G_go rfl rfl ?_
  refine G_rf rfl rfl (by decide) (hR 2 0 3 rfl) ?_
  refine G_rf rfl rfl (by decide) (hR 3 2 6 rfl) ?_
  refine G_go rfl rfl ?_
  refine G_ir (n := 6) rfl rfl (by decide) (by decide) g1 ?_
  refine G_go rfl rfl ?_
  show G 2 120 90 48 [(3, 2), (1, x1), (1, x2), (1, x3), (1, s 5 x1.toNat), (1, s 6 x1.toNat), (0, 0), (0, 0), (0, 0), (0, 0), (0, 0)] [] (n, s) Q
  refine G_go rfl rfl ?_
  refine G_rf rfl rfl (by decide) (hR 2 0 3 rfl) ?_
  refine G_rf rfl rfl (by decide) (hR 3 3 7 rfl) ?_
  refine G_go rfl rfl ?_
  refine G_ir (n := 6) rfl rfl (by decide) (by decide) g1 ?_
  refine G_go rfl rfl ?_
  show G 2 120 90 59 [(3, 2), (1, x1), (1, x2), (1, x3), (1, s 5 x1.toNat), (1, s 6 x1.toNat), (1, s 7 x1.toNat), (0, 0), (0, 0), (0, 0), (0, 0)] [] (n, s) Q
  refine G_go rfl rfl ?_
  refine G_go rfl rfl ?_
  show G 2 120 90 62 [(3, 2), (1, x1), (1, x2), (1, x3), (1, s 5 x1.toNat), (1, s 6 x1.toNat), (1, s 7 x1.toNat), (1, 0), (0, 0), (0, 0), (0, 0)] [] (n, s) Q
  refine G_go rfl rfl ?_
  refine G_rf rfl rfl (by decide) (hR 2 0 3 rfl) ?_
  refine G_go rfl rfl ?_
  refine G_call rfl rfl ?_
  refine G_go rfl rfl ?_
  refine G_rf rfl rfl (by decide) (hR 3 0 4 rfl) ?_
  refine G_go rfl rfl ?_
  refine G_ir (n := 6) rfl rfl (by decide) (by decide) g1 ?_
  refine G_go rfl rfl ?_
  refine G_rf rfl rfl (by decide) (hR 3 1 5 rfl) ?_
  refine G_go rfl rfl ?_
  refine G_ir (n := 6) rfl rfl (by decide) (by decide) g1 ?_
  refine G_go rfl rfl ?_
  refine G_rf rfl rfl (by decide) (hR 3 2 6 rfl) ?_
  refine G_go rfl rfl ?_
  refine G_ir (n := 6) rfl rfl (by decide) (by decide) g1 ?_
  refine G_go rfl rfl ?_
  refine G_rf rfl rfl (by decide) (hR 3 3 7 rfl) ?_
  refine G_go rfl rfl ?_
  refine G_ir (n := 6) rfl rfl (by decide) (by decide) g1 ?_
  refine G_call rfl rfl ?_
  obtain ⟨g2, h⟩ := h
  obtain ⟨g3, h⟩ := h
  obtain ⟨g4, h⟩ := h
  refine c_X1_wealth n _ _ (s 4 x1.toNat) (s 5 x1.toNat) (s 6 x1.toNat) (s 7 x1.toNat) hR g2 g3 g4 ?_
  refine G_ret rfl rfl ?_
  refine G_go rfl rfl ?_
  show G 2 120 90 72 [(3, 2), (1, x1), (1, x2), (1, x3), (1, s 5 x1.toNat), (1, s 6 x1.toNat), (1, s 7 x1.toNat), (1, 0), (1, wlt (s 4 x1.toNat) (s 5 x1.toNat) (s 6 x1.toNat) (s 7 x1.toNat)), (0, 0), (0, 0)] [] (n, s) Q
  refine G_go rfl rfl ?_
  refine G_go rfl rfl ?_
  show G 2 120 90 75 [(3, 2), (1, x1), (1, x2), (1, x3), (1, s 5 x1.toNat), (1, s 6 x1.toNat), (1, s 7 x1.toNat), (1, 0), (1, wlt (s 4 x1.toNat) (s 5 x1.toNat) (s 6 x1.toNat) (s 7 x1.toNat)), (1, 1), (0, 0)] [] (n, s) Q
  exact h
theorem sb_X6_hide_37 (n : Nat) (s : Nat → Nat → Int) (Q : List Vl → Sto → Prop) (x1 : Int) (x2 : Int) (x3 : Int) (x4 : Int) (hR : refs s)
    (h : (0 ≤ x1 ∧ x1 < 6) ∧ ((0 ≤ s 5 x1.toNat ∧ s 5 x1.toNat ≤ 9) ∧ ((0 ≤ s 6 x1.toNat ∧ s 6 x1.toNat ≤ 2000) ∧ ((0 ≤ s 7 x1.toNat ∧ s 7 x1.toNat ≤ 200) ∧ (G 2 120 90 75 [(3, 2), (1, x1), (1, x2), (1, x3), (1, x4), (1, s 6 x1.toNat), (1, s 7 x1.toNat), (1, 0), (1, wlt (s 4 x1.toNat) (s 5 x1.toNat) (s 6 x1.toNat) (s 7 x1.toNat)), (1, 1), (0, 0)] [] (n, s) Q))))) :
    G 2 120 90 37 [(3, 2), (1, x1), (1, x2), (1, x3), (1, x4), (0, 0), (0, 0), (0, 0), (0, 0), (0, 0), (0, 0)] [] (n, s) Q := by
  refine G_go rfl rfl ?_
  refine G_rf rfl rfl (by decide) (hR 2 0 3 rfl) ?_
  refine G_rf rfl rfl (by decide) (hR 3 2 6 rfl) ?_
  refine G_go rfl rfl ?_
  obtain ⟨g1, h⟩ := h
  refine G_ir (n := 6) rfl rfl (by decide) (by decide) g1 ?_
  refine G_go rfl rfl ?_
  show G 2 120 90 48 [(3, 2), (1, x1), (1, x2), (1, x3), (1, x4), (1, s 6 x1.toNat), (0, 0), (0, 0), (0, 0), (0, 0), (0, 0)] [] (n, s) Q
  refine G_go rfl rfl ?_
  refine G_rf rfl rfl (by decide) (hR 2 0 3 rfl) ?_
  refine G_rf rfl rfl (by decide) (hR 3 3 7 rfl) ?_
  refine G_go rfl rfl ?_
  refine G_ir (n := 6) rfl rfl (by decide) (by decide) g1 ?_
  refine G_go rfl rfl ?_
  show G 2 120 90 59 [(3, 2), (1, x1), (1, x2), (1, x3), (1, x4), (1, s 6 x1.toNat), (1, s 7 x1.toNat), (0, 0), (0, 0), (0, 0), (0, 0)] [] (n, s) Q
  refine G_go rfl rfl ?_
  refine G_go rfl rfl ?_
  show G 2 120 90 62 [(3, 2), (1, x1), (1, x2), (1, x3), (1, x4), (1, s 6 x1.toNat), (1, s 7 x1.toNat), (1, 0), (0, 0), (0, 0), (0, 0)] [] (n, s) Q
  refine G_go rfl rfl ?_
  refine G_rf rfl rfl (by decide) (hR 2 0 3 rfl) ?_
  refine G_go rfl rfl ?_
  refine G_call rfl rfl ?_
  refine G_go rfl rfl ?_
  refine G_rf rfl rfl (by decide) (hR 3 0 4 rfl) ?_
  refine G_go rfl rfl ?_
  refine G_ir (n := 6) rfl rfl (by decide) (by decide) g1 ?_
  refine G_go rfl rfl ?_
  refine G_rf rfl rfl (by decide) (hR 3 1 5 rfl) ?_
  refine G_go rfl rfl ?_
  refine G_ir (n := 6) rfl rfl (by decide) (by decide) g1 ?_
  refine G_go rfl rfl ?_
  refine G_rf rfl rfl (by decide) (hR 3 2 6 rfl) ?_
  refine G_go rfl rfl ?_
  refine G_ir (n := 6) rfl rfl (by decide) (by decide) g1 ?_
  refine G_go rfl rfl ?_
  refine G_rf rfl rfl (by decide) (hR 3 3 7 rfl) ?_
  refine G_go rfl rfl ?_
  refine G_ir (n := 6) rfl rfl (by decide) (by decide) g1 ?_
  refine G_call rfl rfl ?_
  obtain ⟨g2, h⟩ := h
  obtain ⟨g3, h⟩ := h
  obtain ⟨g4, h⟩ := h
  refine c_X1_wealth n _ _ (s 4 x1.toNat) (s 5 x1.toNat) (s 6 x1.toNat) (s 7 x1.toNat) hR g2 g3 g4 ?_
  refine G_ret rfl rfl ?_
  refine G_go rfl rfl ?_
  show G 2 120 90 72 [(3, 2), (1, x1), (1, x2), (1, x3), (1, x4), (1, s 6 x1.toNat), (1, s 7 x1.toNat), (1, 0), (1, wlt (s 4 x1.toNat) (s 5 x1.toNat) (s 6 x1.toNat) (s 7 x1.toNat)), (0, 0), (0, 0)] [] (n, s) Q
  refine G_go rfl rfl ?_
  refine G_go rfl rfl ?_
  show G 2 120 90 75 [(3, 2), (1, x1), (1, x2), (1, x3), (1, x4), (1, s 6 x1.toNat), (1, s 7 x1.toNat), (1, 0), (1, wlt (s 4 x1.toNat) (s 5 x1.toNat) (s 6 x1.toNat) (s 7 x1.toNat)), (1, 1), (0, 0)] [] (n, s) Q
  exact h
theorem sb_X6_hide_48 (n : Nat) (s : Nat → Nat → Int) (Q : List Vl → Sto → Prop) (x1 : Int) (x2 : Int) (x3 : Int) (x4 : Int) (x5 : Int) (hR : refs s)
    (h : (0 ≤ x1 ∧ x1 < 6) ∧ ((0 ≤ s 5 x1.toNat ∧ s 5 x1.toNat ≤ 9) ∧ ((0 ≤ s 6 x1.toNat ∧ s 6 x1.toNat ≤ 2000) ∧ ((0 ≤ s 7 x1.toNat ∧ s 7 x1.toNat ≤ 200) ∧ (G 2 120 90 75 [(3, 2), (1, x1), (1, x2), (1, x3), (1, x4), (1, x5), (1, s 7 x1.toNat), (1, 0), (1, wlt (s 4 x1.toNat) (s 5 x1.toNat) (s 6 x1.toNat) (s 7 x1.toNat)), (1, 1), (0, 0)] [] (n, s) Q))))) :
    G 2 120 90 48 [(3, 2), (1, x1), (1, x2), (1, x3), (1, x4), (1, x5), (0, 0), (0, 0), (0, 0), (0, 0), (0, 0)] [] (n, s) Q := by
  refine G_go rfl rfl ?_
  refine G_rf rfl rfl (by decide) (hR 2 0 3 rfl) ?_
  refine G_rf rfl rfl (by decide) (hR 3 3 7 rfl) ?_
  refine G_go rfl rfl ?_
  obtain ⟨g1, h⟩ := h
  refine G_ir (n := 6) rfl rfl (by decide) (by decide) g1 ?_
  refine G_go rfl rfl ?_
  show G 2 120 90 59 [(3, 2), (1, x1), (1, x2), (1, x3), (1, x4), (1, x5), (1, s 7 x1.toNat), (0, 0), (0, 0), (0, 0), (0, 0)] [] (n, s) Q
  refine G_go rfl rfl ?_
  refine G_go rfl rfl ?_
  show G 2 120 90 62 [(3, 2), (1, x1), (1, x2), (1, x3), (1, x4), (1, x5), (1, s 7 x1.toNat), (1, 0), (0, 0), (0, 0), (0, 0)] [] (n, s) Q
  refine G_go rfl rfl ?_
  refine G_rf rfl rfl (by decide) (hR 2 0 3 rfl) ?_
  refine G_go rfl rfl ?_
  refine G_call rfl rfl ?_
  refine G_go rfl rfl ?_
  refine G_rf rfl rfl (by decide) (hR 3 0 4 rfl) ?_
  refine G_go rfl rfl ?_
  refine G_ir (n := 6) rfl rfl (by decide) (by decide) g1 ?_
  refine G_go rfl rfl ?_
  refine G_rf rfl rfl (by decide) (hR 3 1 5 rfl) ?_
  refine G_go rfl rfl ?_
  refine G_ir (n := 6) rfl rfl (by decide) (by decide) g1 ?_
  refine G_go rfl rfl ?_
  refine G_rf rfl rfl (by decide) (hR 3 2 6 rfl) ?_
  refine G_go rfl rfl ?_
  refine G_ir (n := 6) rfl rfl (by decide) (by decide) g1 ?_
  refine G_go rfl rfl ?_
  refine G_rf rfl rfl (by decide) (hR 3 3 7 rfl) ?_
  refine G_go rfl rfl ?_
  refine G_ir (n := 6) rfl rfl (by decide) (by decide) g1 ?_
  refine G_call rfl rfl ?_
  obtain ⟨g2, h⟩ := h
  obtain ⟨g3, h⟩ := h
  obtain ⟨g4, h⟩ := h
  refine c_X1_wealth n _ _ (s 4 x1.toNat) (s 5 x1.toNat) (s 6 x1.toNat) (s 7 x1.toNat) hR g2 g3 g4 ?_
  refine G_ret rfl rfl ?_
  refine G_go rfl rfl ?_
  show G 2 120 90 72 [(3, 2), (1, x1), (1, x2), (1, x3), (1, x4), (1, x5), (1, s 7 x1.toNat), (1, 0), (1, wlt (s 4 x1.toNat) (s 5 x1.toNat) (s 6 x1.toNat) (s 7 x1.toNat)), (0, 0), (0, 0)] [] (n, s) Q
  refine G_go rfl rfl ?_
  refine G_go rfl rfl ?_
  show G 2 120 90 75 [(3, 2), (1, x1), (1, x2), (1, x3), (1, x4), (1, x5), (1, s 7 x1.toNat), (1, 0), (1, wlt (s 4 x1.toNat) (s 5 x1.toNat) (s 6 x1.toNat) (s 7 x1.toNat)), (1, 1), (0, 0)] [] (n, s) Q
  exact h
theorem sb_X6_hide_59 (n : Nat) (s : Nat → Nat → Int) (Q : List Vl → Sto → Prop) (x1 : Int) (x2 : Int) (x3 : Int) (x4 : Int) (x5 : Int) (x6 : Int) (hR : refs s)
    (h : (0 ≤ x1 ∧ x1 < 6) ∧ ((0 ≤ s 5 x1.toNat ∧ s 5 x1.toNat ≤ 9) ∧ ((0 ≤ s 6 x1.toNat ∧ s 6 x1.toNat ≤ 2000) ∧ ((0 ≤ s 7 x1.toNat ∧ s 7 x1.toNat ≤ 200) ∧ (G 2 120 90 75 [(3, 2), (1, x1), (1, x2), (1, x3), (1, x4), (1, x5), (1, x6), (1, 0), (1, wlt (s 4 x1.toNat) (s 5 x1.toNat) (s 6 x1.toNat) (s 7 x1.toNat)), (1, 1), (0, 0)] [] (n, s) Q))))) :
    G 2 120 90 59 [(3, 2), (1, x1), (1, x2), (1, x3), (1, x4), (1, x5), (1, x6), (0, 0), (0, 0), (0, 0), (0, 0)] [] (n, s) Q := by
  refine G_go rfl rfl ?_
  refine G_go rfl rfl ?_
  show G 2 120 90 62 [(3, 2), (1, x1), (1, x2), (1, x3), (1, x4), (1, x5), (1, x6), (1, 0), (0, 0), (0, 0), (0, 0)] [] (n, s) Q
  refine G_go rfl rfl ?_
  refine G_rf rfl rfl (by decide) (hR 2 0 3 rfl) ?_
  refine G_go rfl rfl ?_
  refine G_call rfl rfl ?_
  refine G_go rfl rfl ?_
  refine G_rf rfl rfl (by decide) (hR 3 0 4 rfl) ?_
  refine G_go rfl rfl ?_
  obtain ⟨g1, h⟩ := h
  refine G_ir (n := 6) rfl rfl (by decide) (by decide) g1 ?_
  refine G_go rfl rfl ?_
  refine G_rf rfl rfl (by decide) (hR 3 1 5 rfl) ?_
  refine G_go rfl rfl ?_
  refine G_ir (n := 6) rfl rfl (by decide) (by decide) g1 ?_
  refine G_go rfl rfl ?_
  refine G_rf rfl rfl (by decide) (hR 3 2 6 rfl) ?_
  refine G_go rfl rfl ?_
  refine G_ir (n := 6) rfl rfl (by decide) (by decide) g1 ?_
  refine G_go rfl rfl ?_
  refine G_rf rfl rfl (by decide) (hR 3 3 7 rfl) ?_
  refine G_go rfl rfl ?_
  refine G_ir (n := 6) rfl rfl (by decide) (by decide) g1 ?_
  refine G_call rfl rfl ?_
  obtain ⟨g2, h⟩ := h
  obtain ⟨g3, h⟩ := h
  obtain ⟨g4, h⟩ := h
  refine c_X1_wealth n _ _ (s 4 x1.toNat) (s 5 x1.toNat) (s 6 x1.toNat) (s 7 x1.toNat) hR g2 g3 g4 ?_
  refine G_ret rfl rfl ?_
  refine G_go rfl rfl ?_
  show G 2 120 90 72 [(3, 2), (1, x1), (1, x2), (1, x3), (1, x4), (1, x5), (1, x6), (1, 0), (1, wlt (s 4 x1.toNat) (s 5 x1.toNat) (s 6 x1.toNat) (s 7 x1.toNat)), (0, 0), (0, 0)] [] (n, s) Q
  refine G_go rfl rfl ?_
  refine G_go rfl rfl ?_
  show G 2 120 90 75 [(3, 2), (1, x1), (1, x2), (1, x3), (1, x4), (1, x5), (1, x6), (1, 0), (1, wlt (s 4 x1.toNat) (s 5 x1.toNat) (s 6 x1.toNat) (s 7 x1.toNat)), (1, 1), (0, 0)] [] (n, s) Q
  exact h
theorem sb_X6_hide_62 (n : Nat) (s : Nat → Nat → Int) (Q : List Vl → Sto → Prop) (x1 : Int) (x2 : Int) (x3 : Int) (x4 : Int) (x5 : Int) (x6 : Int) (x7 : Int) (hR : refs s)
    (h : (0 ≤ x1 ∧ x1 < 6) ∧ ((0 ≤ s 5 x1.toNat ∧ s 5 x1.toNat ≤ 9) ∧ ((0 ≤ s 6 x1.toNat ∧ s 6 x1.toNat ≤ 2000) ∧ ((0 ≤ s 7 x1.toNat ∧ s 7 x1.toNat ≤ 200) ∧ (G 2 120 90 75 [(3, 2), (1, x1), (1, x2), (1, x3), (1, x4), (1, x5), (1, x6), (1, x7), (1, wlt (s 4 x1.toNat) (s 5 x1.toNat) (s 6 x1.toNat) (s 7 x1.toNat)), (1, 1), (0, 0)] [] (n, s) Q))))) :
    G 2 120 90 62 [(3, 2), (1, x1), (1, x2), (1, x3), (1, x4), (1, x5), (1, x6), (1, x7), (0, 0), (0, 0), (0, 0)] [] (n, s) Q := by
  refine G_go rfl rfl ?_
  refine G_rf rfl rfl (by decide) (hR 2 0 3 rfl) ?_
  refine G_go rfl rfl ?_
  refine G_call rfl rfl ?_
  refine G_go rfl rfl ?_
  refine G_rf rfl rfl (by decide) (hR 3 0 4 rfl) ?_
  refine G_go rfl rfl ?_
  obtain ⟨g1, h⟩ := h
  refine G_ir (n := 6) rfl rfl (by decide) (by decide) g1 ?_
  refine G_go rfl rfl ?_
  refine G_rf rfl rfl (by decide) (hR 3 1 5 rfl) ?_
  refine G_go rfl rfl ?_
  refine G_ir (n := 6) rfl rfl (by decide) (by decide) g1 ?_
  refine G_go rfl rfl ?_
  refine G_rf rfl rfl (by decide) (hR 3 2 6 rfl) ?_
  refine G_go rfl rfl ?_
  refine G_ir (n := 6) rfl rfl (by decide) (by decide) g1 ?_
  refine G_go rfl rfl ?_
  refine G_rf rfl rfl (by decide) (hR 3 3 7 rfl) ?_
  refine G_go rfl rfl ?_
  refine G_ir (n := 6) rfl rfl (by decide) (by decide) g1 ?_
  refine G_call rfl rfl ?_
  obtain ⟨g2, h⟩ := h
  obtain ⟨g3, h⟩ := h
  obtain ⟨g4, h⟩ := h
  refine c_X1_wealth n _ _ (s 4 x1.toNat) (s 5 x1.toNat) (s 6 x1.toNat) (s 7 x1.toNat) hR g2 g3 g4 ?_
  refine G_ret rfl rfl ?_
  refine G_go rfl rfl ?_
  show G 2 120 90 72 [(3, 2), (1, x1), (1, x2), (1, x3), (1, x4), (1, x5), (1, x6), (1, x7), (1, wlt (s 4 x1.toNat) (s 5 x1.toNat) (s 6 x1.toNat) (s 7 x1.toNat)), (0, 0), (0, 0)] [] (n, s) Q
  refine G_go rfl rfl ?_
  refine G_go rfl rfl ?_
  show G 2 120 90 75 [(3, 2), (1, x1), (1, x2), (1, x3), (1, x4), (1, x5), (1, x6), (1, x7), (1, wlt (s 4 x1.toNat) (s 5 x1.toNat) (s 6 x1.toNat) (s 7 x1.toNat)), (1, 1), (0, 0)] [] (n, s) Q
  exact h
theorem sb_X6_hide_72 (n : Nat) (s : Nat → Nat → Int) (Q : List Vl → Sto → Prop) (x1 : Int) (x2 : Int) (x3 : Int) (x4 : Int) (x5 : Int) (x6 : Int) (x7 : Int) (x8 : Int) (hR : refs s)
    (h : G 2 120 90 75 [(3, 2), (1, x1), (1, x2), (1, x3), (1, x4), (1, x5), (1, x6), (1, x7), (1, x8), (1, 1), (0, 0)] [] (n, s) Q) :
    G 2 120 90 72 [(3, 2), (1, x1), (1, x2), (1, x3), (1, x4), (1, x5), (1, x6), (1, x7), (1, x8), (0, 0), (0, 0)] [] (n, s) Q := by
  refine G_go rfl rfl ?_
  refine G_go rfl rfl ?_
  show G 2 120 90 75 [(3, 2), (1, x1), (1, x2), (1, x3), (1, x4), (1, x5), (1, x6), (1, x7), (1, x8), (1, 1), (0, 0)] [] (n, s) Q
  exact h
theorem sb_X6_hide_75 (n : Nat) (s : Nat → Nat → Int) (Q : List Vl → Sto → Prop) (x1 : Int) (x2 : Int) (x3 : Int) (x4 : Int) (x5 : Int) (x6 : Int) (x7 : Int) (x8 : Int) (x9 : Int) (w10 : Vl) (hR : refs s)
    (h : (x5 < x9 → Q [(1, x7)] (n, s)) ∧ (x9 ≤ x5 → (99 < wr (x6 + x9) → Q [(1, x7)] (n, s)) ∧ (wr (x6 + x9) ≤ 99 → (0 ≤ x4 ∧ x4 ≤ 9) ∧ ((0 ≤ wr (x5 - x9) ∧ wr (x5 - x9) ≤ 2000) ∧ ((0 ≤ wr (x6 + x9) ∧ wr (x6 + x9) ≤ 200) ∧ ((x8 ≤ wlt x3 x4 (wr (x5 - x9)) (wr (x6 + x9)) → G 2 120 90 75 [(3, 2), (1, x1), (1, x2), (1, x3), (1, x4), (1, x5), (1, x6), (1, x7), (1, x8), (1, wr (x9 + 1)), (1, wlt x3 x4 (wr (x5 - x9)) (wr (x6 + x9)))] [] (n, s) Q) ∧ (wlt x3 x4 (wr (x5 - x9)) (wr (x6 + x9)) < x8 → G 2 120 90 75 [(3, 2), (1, x1), (1, x2), (1, x3), (1, x4), (1, x5), (1, x6), (1, x9), (1, wlt x3 x4 (wr (x5 - x9)) (wr (x6 + x9))), (1, wr (x9 + 1)), (1, wlt x3 x4 (wr (x5 - x9)) (wr (x6 + x9)))] [] (n, s) Q))))))) :
    G 2 120 90 75 [(3, 2), (1, x1), (1, x2), (1, x3), (1, x4), (1, x5), (1, x6), (1, x7), (1, x8), (1, x9), w10] [] (n, s) Q := by
  refine G_go rfl rfl ?_
  refine G_go rfl rfl ?_
  refine G_gt rfl rfl (fun c1 => ?_) (fun c1 => ?_)
  · have h := h.1 c1
    refine G_go rfl rfl ?_
    exact G_ret rfl rfl h
  · have h := h.2 c1
    refine G_go rfl rfl ?_
    refine G_go rfl rfl ?_
    refine G_go rfl rfl ?_
    refine G_go rfl rfl ?_
    refine G_gt rfl rfl (fun c2 => ?_) (fun c2 => ?_)
    · have h := h.1 c2
      refine G_go rfl rfl ?_
      exact G_ret rfl rfl h
    · have h := h.2 c2
      refine G_go rfl rfl ?_
      refine G_go rfl rfl ?_
      refine G_go rfl rfl ?_
      refine G_go rfl rfl ?_
      refine G_go rfl rfl ?_
      refine G_go rfl rfl ?_
      refine G_go rfl rfl ?_
      refine G_go rfl rfl ?_
      refine G_call rfl rfl ?_
      obtain ⟨g3, h⟩ := h
      obtain ⟨g4, h⟩ := h
      obtain ⟨g5, h⟩ := h
      refine c_X1_wealth n _ _ x3 x4 (wr (x5 - x9)) (wr (x6 + x9)) hR g3 g4 g5 ?_
      refine G_go rfl rfl ?_
      show G 2 120 90 110 [(3, 2), (1, x1), (1, x2), (1, x3), (1, x4), (1, x5), (1, x6), (1, x7), (1, x8), (1, x9), (1, wlt x3 x4 (wr (x5 - x9)) (wr (x6 + x9)))] [] (n, s) Q
      refine G_go rfl rfl ?_
      refine G_go rfl rfl ?_
      refine G_ge rfl rfl (fun c6 => ?_) (fun c6 => ?_)
      · have h := h.1 c6
        refine G_go rfl rfl ?_
        refine G_go rfl rfl ?_
        exact h
      · have h := h.2 c6
        refine G_go rfl rfl ?_
        refine G_go rfl rfl ?_
        show G 2 120 90 121 [(3, 2), (1, x1), (1, x2), (1, x3), (1, x4), (1, x5), (1, x6), (1, x7), (1, wlt x3 x4 (wr (x5 - x9)) (wr (x6 + x9))), (1, x9), (1, wlt x3 x4 (wr (x5 - x9)) (wr (x6 + x9)))] [] (n, s) Q
        refine G_go rfl rfl ?_
        refine G_go rfl rfl ?_
        show G 2 120 90 125 [(3, 2), (1, x1), (1, x2), (1, x3), (1, x4), (1, x5), (1, x6), (1, x9), (1, wlt x3 x4 (wr (x5 - x9)) (wr (x6 + x9))), (1, x9), (1, wlt x3 x4 (wr (x5 - x9)) (wr (x6 + x9)))] [] (n, s) Q
        refine G_go rfl rfl ?_
        refine G_go rfl rfl ?_
        exact h
theorem sb_X6_hide_110 (n : Nat) (s : Nat → Nat → Int) (Q : List Vl → Sto → Prop) (x1 : Int) (x2 : Int) (x3 : Int) (x4 : Int) (x5 : Int) (x6 : Int) (x7 : Int) (x8 : Int) (x9 : Int) (x10 : Int) (hR : refs s)
    (h : (x8 ≤ x10 → G 2 120 90 75 [(3, 2), (1, x1), (1, x2), (1, x3), (1, x4), (1, x5), (1, x6), (1, x7), (1, x8), (1, wr (x9 + 1)), (1, x10)] [] (n, s) Q) ∧ (x10 < x8 → G 2 120 90 75 [(3, 2), (1, x1), (1, x2), (1, x3), (1, x4), (1, x5), (1, x6), (1, x9), (1, x10), (1, wr (x9 + 1)), (1, x10)] [] (n, s) Q)) :
    G 2 120 90 110 [(3, 2), (1, x1), (1, x2), (1, x3), (1, x4), (1, x5), (1, x6), (1, x7), (1, x8), (1, x9), (1, x10)] [] (n, s) Q := by
  refine G_go rfl rfl ?_
  refine G_go rfl rfl ?_
  refine G_ge rfl rfl (fun c1 => ?_) (fun c1 => ?_)
  · have h := h.1 c1
    refine G_go rfl rfl ?_
    refine G_go rfl rfl ?_
    exact h
  · have h := h.2 c1
    refine G_go rfl rfl ?_
    refine G_go rfl rfl ?_
    show G 2 120 90 121 [(3, 2), (1, x1), (1, x2), (1, x3), (1, x4), (1, x5), (1, x6), (1, x7), (1, x10), (1, x9), (1, x10)] [] (n, s) Q
    refine G_go rfl rfl ?_
    refine G_go rfl rfl ?_
    show G 2 120 90 125 [(3, 2), (1, x1), (1, x2), (1, x3), (1, x4), (1, x5), (1, x6), (1, x9), (1, x10), (1, x9), (1, x10)] [] (n, s) Q
    refine G_go rfl rfl ?_
    refine G_go rfl rfl ?_
    exact h
theorem sb_X6_hide_121 (n : Nat) (s : Nat → Nat → Int) (Q : List Vl → Sto → Prop) (x1 : Int) (x2 : Int) (x3 : Int) (x4 : Int) (x5 : Int) (x6 : Int) (x7 : Int) (x8 : Int) (x9 : Int) (x10 : Int) (hR : refs s)
    (h : G 2 120 90 75 [(3, 2), (1, x1), (1, x2), (1, x3), (1, x4), (1, x5), (1, x6), (1, x9), (1, x8), (1, wr (x9 + 1)), (1, x10)] [] (n, s) Q) :
    G 2 120 90 121 [(3, 2), (1, x1), (1, x2), (1, x3), (1, x4), (1, x5), (1, x6), (1, x7), (1, x8), (1, x9), (1, x10)] [] (n, s) Q := by
  refine G_go rfl rfl ?_
  refine G_go rfl rfl ?_
  show G 2 120 90 125 [(3, 2), (1, x1), (1, x2), (1, x3), (1, x4), (1, x5), (1, x6), (1, x9), (1, x8), (1, x9), (1, x10)] [] (n, s) Q
  refine G_go rfl rfl ?_
  refine G_go rfl rfl ?_
  exact h
theorem sb_X6_hide_125 (n : Nat) (s : Nat → Nat → Int) (Q : List Vl → Sto → Prop) (x1 : Int) (x2 : Int) (x3 : Int) (x4 : Int) (x5 : Int) (x6 : Int) (x7 : Int) (x8 : Int) (x9 : Int) (x10 : Int) (hR : refs s)
    (h : G 2 120 90 75 [(3, 2), (1, x1), (1, x2), (1, x3), (1, x4), (1, x5), (1, x6), (1, x7), (1, x8), (1, wr (x9 + 1)), (1, x10)] [] (n, s) Q) :
    G 2 120 90 125 [(3, 2), (1, x1), (1, x2), (1, x3), (1, x4), (1, x5), (1, x6), (1, x7), (1, x8), (1, x9), (1, x10)] [] (n, s) Q := by
  refine G_go rfl rfl ?_
  refine G_go rfl rfl ?_
  exact h
theorem sb_X7_hide_0 (n : Nat) (s : Nat → Nat → Int) (Q : List Vl → Sto → Prop) (a0 : Int) (hR : refs s)
    (h : (a0 < 0 → Q [(1, (-1))] (n, upS (upS s 120 10 0) 129 1 (wr ((s 129 1) + 1)))) ∧ (a0 ≥ 0 → (a0 > wr ((s 120 0) - 1) → Q [(1, (-1))] (n, upS (upS s 120 10 0) 129 1 (wr ((s 129 1) + 1)))) ∧ (a0 ≤ wr ((s 120 0) - 1) → (0 ≤ a0 ∧ a0 < 6) ∧ (G 120 140 186 42 [(3, 120), (1, a0), (1, s 123 a0.toNat), (1, s 124 a0.toNat), (1, 0), (1, (-1)), (1, 0), (0, 0)] [] (n, upS s 120 10 0) Q)))) :
    G 120 140 186 0 [(3, 120), (1, a0), (0, 0), (0, 0), (0, 0), (0, 0), (0, 0), (0, 0)] [] (n, s) Q := by
  refine G_go rfl rfl ?_
  refine G_go rfl rfl ?_
  refine G_wr rfl rfl (by decide) ?_
  have hR := refs_up (a := 120) (k := 10) (x := 0) hR rfl
  refine G_go rfl rfl ?_
  refine G_go rfl rfl ?_
  refine G_call rfl rfl ?_
  refine G_go rfl rfl ?_
  refine G_go rfl rfl ?_
  refine G_go rfl rfl ?_
  refine G_go rfl rfl ?_
  refine G_rd rfl rfl (by decide) ?_
  refine G_go rfl rfl ?_
  refine G_go rfl rfl ?_
  refine G_go rfl rfl ?_
  refine G_call rfl rfl ?_
  refine G_go rfl rfl ?_
  refine G_go rfl rfl ?_
  refine G_go rfl rfl ?_
  refine G_lt rfl rfl (fun c1 => ?_) (fun c1 => ?_)
  · have c1 := xl_lt c1
    have h := h.1 c1
    refine G_go rfl rfl ?_
    refine G_ret rfl rfl ?_
    refine G_ret rfl rfl ?_
    refine G_brF rfl rfl rfl ?_
    refine G_go rfl rfl ?_
    refine G_go rfl rfl ?_
    refine G_call rfl rfl ?_
    refine G_go rfl rfl ?_
    refine G_rf rfl rfl (by decide) (hR 120 11 129 rfl) ?_
    refine G_go rfl rfl ?_
    refine G_go rfl rfl ?_
    refine G_go rfl rfl ?_
    refine G_ir (n := 7) rfl rfl (by decide) (by decide) (by decide) ?_
    refine G_go rfl rfl ?_
    refine G_go rfl rfl ?_
    refine G_iw (n := 7) rfl rfl (by decide) (by decide) (by decide) ?_
    have hR := refs_up (a := 129) (k := 1) (x := wr ((s 129 1) + 1)) hR rfl
    refine G_go rfl rfl ?_
    refine G_ret rfl rfl ?_
    exact G_ret rfl rfl h
  · have c1 := xl_ge c1
    have h := h.2 c1
    refine G_go rfl rfl ?_
    refine G_go rfl rfl ?_
    refine G_go rfl rfl ?_
    refine G_gt rfl rfl (fun c2 => ?_) (fun c2 => ?_)
    · have c2 := xl_gt c2
      have h := h.1 c2
      refine G_go rfl rfl ?_
      refine G_ret rfl rfl ?_
      refine G_ret rfl rfl ?_
      refine G_brF rfl rfl rfl ?_
      refine G_go rfl rfl ?_
      refine G_go rfl rfl ?_
      refine G_call rfl rfl ?_
      refine G_go rfl rfl ?_
      refine G_rf rfl rfl (by decide) (hR 120 11 129 rfl) ?_
      refine G_go rfl rfl ?_
      refine G_go rfl rfl ?_
      refine G_go rfl rfl ?_
      refine G_ir (n := 7) rfl rfl (by decide) (by decide) (by decide) ?_
      refine G_go rfl rfl ?_
      refine G_go rfl rfl ?_
      refine G_iw (n := 7) rfl rfl (by decide) (by decide) (by decide) ?_
      have hR := refs_up (a := 129) (k := 1) (x := wr ((s 129 1) + 1)) hR rfl
      refine G_go rfl rfl ?_
      refine G_ret rfl rfl ?_
      exact G_ret rfl rfl h
    · have c2 := xl_le c2
      have h := h.2 c2
      refine G_go rfl rfl ?_
      refine G_go rfl rfl ?_
      refine G_ret rfl rfl ?_
      refine G_ret rfl rfl ?_
      refine G_brT rfl rfl rfl ?_
      refine G_go rfl rfl ?_
      refine G_rf rfl rfl (by decide) (hR 120 3 123 rfl) ?_
      refine G_go rfl rfl ?_
      obtain ⟨g3, h⟩ := h
      refine G_ir (n := 6) rfl rfl (by decide) (by decide) g3 ?_
      refine G_go rfl rfl ?_
      show G 120 140 186 26 [(3, 120), (1, a0), (1, s 123 a0.toNat), (0, 0), (0, 0), (0, 0), (0, 0), (0, 0)] [] (n, upS s 120 10 0) Q
      refine G_go rfl rfl ?_
      refine G_rf rfl rfl (by decide) (hR 120 4 124 rfl) ?_
      refine G_go rfl rfl ?_
      refine G_ir (n := 6) rfl rfl (by decide) (by decide) g3 ?_
      refine G_go rfl rfl ?_
      show G 120 140 186 33 [(3, 120), (1, a0), (1, s 123 a0.toNat), (1, s 124 a0.toNat), (0, 0), (0, 0), (0, 0), (0, 0)] [] (n, upS s 120 10 0) Q
      refine G_go rfl rfl ?_
      refine G_go rfl rfl ?_
      show G 120 140 186 36 [(3, 120), (1, a0), (1, s 123 a0.toNat), (1, s 124 a0.toNat), (1, 0), (0, 0), (0, 0), (0, 0)] [] (n, upS s 120 10 0) Q
      refine G_go rfl rfl ?_
      refine G_go rfl rfl ?_
      show G 120 140 186 39 [(3, 120), (1, a0), (1, s 123 a0.toNat), (1, s 124 a0.toNat), (1, 0), (1, (-1)), (0, 0), (0, 0)] [] (n, upS s 120 10 0) Q
      refine G_go rfl rfl ?_
      refine G_go rfl rfl ?_
      show G 120 140 186 42 [(3, 120), (1, a0), (1, s 123 a0.toNat), (1, s 124 a0.toNat), (1, 0), (1, (-1)), (1, 0), (0, 0)] [] (n, upS s 120 10 0) Q
      exact h
theorem sb_X7_hide_26 (n : Nat) (s : Nat → Nat → Int) (Q : List Vl → Sto → Prop) (x1 : Int) (x2 : Int) (hR : refs s)
    (h : (0 ≤ x1 ∧ x1 < 6) ∧ (G 120 140 186 42 [(3, 120), (1, x1), (1, x2), (1, s 124 x1.toNat), (1, 0), (1, (-1)), (1, 0), (0, 0)] [] (n, s) Q)) :
    G 120 140 186 26 [(3, 120), (1, x1), (1, x2), (0, 0), (0, 0), (0, 0), (0, 0), (0, 0)] [] (n, s) Q := by
  refine G_go rfl rfl ?_
  refine G_rf rfl rfl (by decide) (hR 120 4 124 rfl) ?_
  refine G_go rfl rfl ?_
  obtain ⟨g1, h⟩ := h
  refine G_ir (n := 6) rfl rfl (by decide) (by decide) g1 ?_
  refine G_go rfl rfl ?_
  show G 120 140 186 33 [(3, 120), (1, x1), (1, x2), (1, s 124 x1.toNat), (0, 0), (0, 0), (0, 0), (0, 0)] [] (n, s) Q
  refine G_go rfl rfl ?_
  refine G_go rfl rfl ?_
  show G 120 140 186 36 [(3, 120), (1, x1), (1, x2), (1, s 124 x1.toNat), (1, 0), (0, 0), (0, 0), (0, 0)] [] (n, s) Q
  refine G_go rfl rfl ?_
  refine G_go rfl rfl ?_
  show G 120 140 186 39 [(3, 120), (1, x1), (1, x2), (1, s 124 x1.toNat), (1, 0), (1, (-1)), (0, 0), (0, 0)] [] (n, s) Q
  refine G_go rfl rfl ?_
  refine G_go rfl rfl ?_
  show G 120 140 186 42 [(3, 120), (1, x1), (1, x2), (1, s 124 x1.toNat), (1, 0), (1, (-1)), (1, 0), (0, 0)] [] (n, s) Q
  exact h
theorem sb_X7_hide_33 (n : Nat) (s : Nat → Nat → Int) (Q : List Vl → Sto → Prop) (x1 : Int) (x2 : Int) (x3 : Int) (hR : refs s)
    (h : G 120 140 186 42 [(3, 120), (1, x1), (1, x2), (1, x3), (1, 0), (1, (-1)), (1, 0), (0, 0)] [] (n, s) Q) :
    G 120 140 186 33 [(3, 120), (1, x1), (1, x2), (1, x3), (0, 0), (0, 0), (0, 0), (0, 0)] [] (n, s) Q := by
  refine G_go rfl rfl ?_
  refine G_go rfl rfl ?_
  show G 120 140 186 36 [(3, 120), (1, x1), (1, x2), (1, x3), (1, 0), (0, 0), (0, 0), (0, 0)] [] (n, s) Q
  refine G_go rfl rfl ?_
  refine G_go rfl rfl ?_
  show G 120 140 186 39 [(3, 120), (1, x1), (1, x2), (1, x3), (1, 0), (1, (-1)), (0, 0), (0, 0)] [] (n, s) Q
  refine G_go rfl rfl ?_
  refine G_go rfl rfl ?_
  show G 120 140 186 42 [(3, 120), (1, x1), (1, x2), (1, x3), (1, 0), (1, (-1)), (1, 0), (0, 0)] [] (n, s) Q
  exact h
theorem sb_X7_hide_36 (n : Nat) (s : Nat → Nat → Int) (Q : List Vl → Sto → Prop) (x1 : Int) (x2 : Int) (x3 : Int) (x4 : Int) (hR : refs s)
    (h : G 120 140 186 42 [(3, 120), (1, x1), (1, x2), (1, x3), (1, x4), (1, (-1)), (1, 0), (0, 0)] [] (n, s) Q) :
    G 120 140 186 36 [(3, 120), (1, x1), (1, x2), (1, x3), (1, x4), (0, 0), (0, 0), (0, 0)] [] (n, s) Q := by
  refine G_go rfl rfl ?_
  refine G_go rfl rfl ?_
  show G 120 140 186 39 [(3, 120), (1, x1), (1, x2), (1, x3), (1, x4), (1, (-1)), (0, 0), (0, 0)] [] (n, s) Q
  refine G_go rfl rfl ?_
  refine G_go rfl rfl ?_
  show G 120 140 186 42 [(3, 120), (1, x1), (1, x2), (1, x3), (1, x4), (1, (-1)), (1, 0), (0, 0)] [] (n, s) Q
  exact h
theorem sb_X7_hide_39 (n : Nat) (s : Nat → Nat → Int) (Q : List Vl → Sto → Prop) (x1 : Int) (x2 : Int) (x3 : Int) (x4 : Int) (x5 : Int) (hR : refs s)
    (h : G 120 140 186 42 [(3, 120), (1, x1), (1, x2), (1, x3), (1, x4), (1, x5), (1, 0), (0, 0)] [] (n, s) Q) :
    G 120 140 186 39 [(3, 120), (1, x1), (1, x2), (1, x3), (1, x4), (1, x5), (0, 0), (0, 0)] [] (n, s) Q := by
  refine G_go rfl rfl ?_
  refine G_go rfl rfl ?_
  show G 120 140 186 42 [(3, 120), (1, x1), (1, x2), (1, x3), (1, x4), (1, x5), (1, 0), (0, 0)] [] (n, s) Q
  exact h
theorem sb_X7_hide_42 (n : Nat) (s : Nat → Nat → Int) (Q : List Vl → Sto → Prop) (x1 : Int) (x2 : Int) (x3 : Int) (x4 : Int) (x5 : Int) (x6 : Int) (w7 : Vl) (hR : refs s)
    (h : (x2 < x6 → (0 ≤ x1 ∧ x1 < 6) ∧ (Q [(1, x4)] (n, upS (upS s 123 x1.toNat x2) 124 x1.toNat x3))) ∧ (x6 ≤ x2 → (99 < wr (x3 + x6) → (0 ≤ x1 ∧ x1 < 6) ∧ (Q [(1, x4)] (n, upS (upS s 123 x1.toNat x2) 124 x1.toNat x3))) ∧ (wr (x3 + x6) ≤ 99 → (0 ≤ x1 ∧ x1 < 6) ∧ ((rgP (vw 121 (upS (upS s 123 x1.toNat (wr (x2 - x6))) 124 x1.toNat (wr (x3 + x6)))) x1.toNat) ∧ ((0 ≤ vw 121 (upS (upS s 123 x1.toNat (wr (x2 - x6))) 124 x1.toNat (wr (x3 + x6))) 2 x1.toNat ∧ vw 121 (upS (upS s 123 x1.toNat (wr (x2 - x6))) 124 x1.toNat (wr (x3 + x6))) 2 x1.toNat ≤ 2000) ∧ ((x5 < 0 → G 120 140 186 42 [(3, 120), (1, x1), (1, x2), (1, x3), (1, x6), (1, wlW (vw 121 (upS (upS s 123 x1.toNat (wr (x2 - x6))) 124 x1.toNat (wr (x3 + x6)))) x1.toNat), (1, wr (x6 + 1)), (1, wlW (vw 121 (upS (upS s 123 x1.toNat (wr (x2 - x6))) 124 x1.toNat (wr (x3 + x6)))) x1.toNat)] [] (n, upS (upS s 123 x1.toNat (wr (x2 - x6))) 124 x1.toNat (wr (x3 + x6))) Q) ∧ (0 ≤ x5 → (x5 ≤ wlW (vw 121 (upS (upS s 123 x1.toNat (wr (x2 - x6))) 124 x1.toNat (wr (x3 + x6)))) x1.toNat → G 120 140 186 42 [(3, 120), (1, x1), (1, x2), (1, x3), (1, x4), (1, x5), (1, wr (x6 + 1)), (1, wlW (vw 121 (upS (upS s 123 x1.toNat (wr (x2 - x6))) 124 x1.toNat (wr (x3 + x6)))) x1.toNat)] [] (n, upS (upS s 123 x1.toNat (wr (x2 - x6))) 124 x1.toNat (wr (x3 + x6))) Q) ∧ (wlW (vw 121 (upS (upS s 123 x1.toNat (wr (x2 - x6))) 124 x1.toNat (wr (x3 + x6)))) x1.toNat < x5 → G 120 140 186 42 [(3, 120), (1, x1), (1, x2), (1, x3), (1, x6), (1, wlW (vw 121 (upS (upS s 123 x1.toNat (wr (x2 - x6))) 124 x1.toNat (wr (x3 + x6)))) x1.toNat), (1, wr (x6 + 1)), (1, wlW (vw 121 (upS (upS s 123 x1.toNat (wr (x2 - x6))) 124 x1.toNat (wr (x3 + x6)))) x1.toNat)] [] (n, upS (upS s 123 x1.toNat (wr (x2 - x6))) 124 x1.toNat (wr (x3 + x6))) Q)))))))) :
    G 120 140 186 42 [(3, 120), (1, x1), (1, x2), (1, x3), (1, x4), (1, x5), (1, x6), w7] [] (n, s) Q := by
  refine G_go rfl rfl ?_
  refine G_go rfl rfl ?_
  refine G_gt rfl rfl (fun c1 => ?_) (fun c1 => ?_)
  · have h := h.1 c1
    refine G_go rfl rfl ?_
    refine G_rf rfl rfl (by decide) (hR 120 3 123 rfl) ?_
    refine G_go rfl rfl ?_
    refine G_go rfl rfl ?_
    obtain ⟨g2, h⟩ := h
    refine G_iw (n := 6) rfl rfl (by decide) (by decide) g2 ?_
    have hR := refs_up (a := 123) (k := x1.toNat) (x := x2) hR rfl
    refine G_go rfl rfl ?_
    refine G_rf rfl rfl (by decide) (hR 120 4 124 rfl) ?_
    refine G_go rfl rfl ?_
    refine G_go rfl rfl ?_
    refine G_iw (n := 6) rfl rfl (by decide) (by decide) g2 ?_
    have hR := refs_up (a := 124) (k := x1.toNat) (x := x3) hR rfl
    refine G_go rfl rfl ?_
    exact G_ret rfl rfl h
  · have h := h.2 c1
    refine G_go rfl rfl ?_
    refine G_go rfl rfl ?_
    refine G_go rfl rfl ?_
    refine G_go rfl rfl ?_
    refine G_gt rfl rfl (fun c3 => ?_) (fun c3 => ?_)
    · have h := h.1 c3
      refine G_go rfl rfl ?_
      refine G_rf rfl rfl (by decide) (hR 120 3 123 rfl) ?_
      refine G_go rfl rfl ?_
      refine G_go rfl rfl ?_
      obtain ⟨g4, h⟩ := h
      refine G_iw (n := 6) rfl rfl (by decide) (by decide) g4 ?_
      have hR := refs_up (a := 123) (k := x1.toNat) (x := x2) hR rfl
      refine G_go rfl rfl ?_
      refine G_rf rfl rfl (by decide) (hR 120 4 124 rfl) ?_
      refine G_go rfl rfl ?_
      refine G_go rfl rfl ?_
      refine G_iw (n := 6) rfl rfl (by decide) (by decide) g4 ?_
      have hR := refs_up (a := 124) (k := x1.toNat) (x := x3) hR rfl
      refine G_go rfl rfl ?_
      exact G_ret rfl rfl h
    · have h := h.2 c3
      refine G_go rfl rfl ?_
      refine G_rf rfl rfl (by decide) (hR 120 3 123 rfl) ?_
      refine G_go rfl rfl ?_
      refine G_go rfl rfl ?_
      refine G_go rfl rfl ?_
      refine G_go rfl rfl ?_
      obtain ⟨g5, h⟩ := h
      refine G_iw (n := 6) rfl rfl (by decide) (by decide) g5 ?_
      have hR := refs_up (a := 123) (k := x1.toNat) (x := wr (x2 - x6)) hR rfl
      refine G_go rfl rfl ?_
      refine G_rf rfl rfl (by decide) (hR 120 4 124 rfl) ?_
      refine G_go rfl rfl ?_
      refine G_go rfl rfl ?_
      refine G_go rfl rfl ?_
      refine G_go rfl rfl ?_
      refine G_iw (n := 6) rfl rfl (by decide) (by decide) g5 ?_
      have hR := refs_up (a := 124) (k := x1.toNat) (x := wr (x3 + x6)) hR rfl
      refine G_go rfl rfl ?_
      refine G_go rfl rfl ?_
      refine G_call rfl rfl ?_
      obtain ⟨g6, h⟩ := h
      obtain ⟨g7, h⟩ := h
      refine c_X7_wealthOf n _ _ x1 hR g5 g6 g7 ?_
      refine G_go rfl rfl ?_
      show G 120 140 186 84 [(3, 120), (1, x1), (1, x2), (1, x3), (1, x4), (1, x5), (1, x6), (1, wlW (vw 121 (upS (upS s 123 x1.toNat (wr (x2 - x6))) 124 x1.toNat (wr (x3 + x6)))) x1.toNat)] [] (n, upS (upS s 123 x1.toNat (wr (x2 - x6))) 124 x1.toNat (wr (x3 + x6))) Q
      refine G_go rfl rfl ?_
      refine G_lt rfl rfl (fun c8 => ?_) (fun c8 => ?_)
      · have h := h.1 c8
        refine G_go rfl rfl ?_
        refine G_go rfl rfl ?_
        refine G_go rfl rfl ?_
        show G 120 140 186 105 [(3, 120), (1, x1), (1, x2), (1, x3), (1, x6), (1, x5), (1, x6), (1, wlW (vw 121 (upS (upS s 123 x1.toNat (wr (x2 - x6))) 124 x1.toNat (wr (x3 + x6)))) x1.toNat)] [] (n, upS (upS s 123 x1.toNat (wr (x2 - x6))) 124 x1.toNat (wr (x3 + x6))) Q
        refine G_go rfl rfl ?_
        refine G_lt rfl rfl (fun _ => ?_) (fun hc => absurd (show 0 ≤ x5 from hc) (by omega))
        refine G_go rfl rfl ?_
        refine G_go rfl rfl ?_
        refine G_go rfl rfl ?_
        show G 120 140 186 126 [(3, 120), (1, x1), (1, x2), (1, x3), (1, x6), (1, wlW (vw 121 (upS (upS s 123 x1.toNat (wr (x2 - x6))) 124 x1.toNat (wr (x3 + x6)))) x1.toNat), (1, x6), (1, wlW (vw 121 (upS (upS s 123 x1.toNat (wr (x2 - x6))) 124 x1.toNat (wr (x3 + x6)))) x1.toNat)] [] (n, upS (upS s 123 x1.toNat (wr (x2 - x6))) 124 x1.toNat (wr (x3 + x6))) Q
        refine G_go rfl rfl ?_
        refine G_go rfl rfl ?_
        exact h
      · have h := h.2 c8
        refine G_go rfl rfl ?_
        refine G_go rfl rfl ?_
        refine G_ge rfl rfl (fun c9 => ?_) (fun c9 => ?_)
        · have h := h.1 c9
          refine G_go rfl rfl ?_
          refine G_go rfl rfl ?_
          show G 120 140 186 105 [(3, 120), (1, x1), (1, x2), (1, x3), (1, x4), (1, x5), (1, x6), (1, wlW (vw 121 (upS (upS s 123 x1.toNat (wr (x2 - x6))) 124 x1.toNat (wr (x3 + x6)))) x1.toNat)] [] (n, upS (upS s 123 x1.toNat (wr (x2 - x6))) 124 x1.toNat (wr (x3 + x6))) Q
          refine G_go rfl rfl ?_
          refine G_lt rfl rfl (fun hc => absurd (show x5 < 0 from hc) (by omega)) (fun _ => ?_)
          refine G_go rfl rfl ?_
          refine G_go rfl rfl ?_
          refine G_ge rfl rfl (fun _ => ?_) (fun hc => absurd (show wlW (vw 121 (upS (upS s 123 x1.toNat (wr (x2 - x6))) 124 x1.toNat (wr (x3 + x6)))) x1.toNat < x5 from hc) (by omega))
          refine G_go rfl rfl ?_
          refine G_go rfl rfl ?_
          show G 120 140 186 126 [(3, 120), (1, x1), (1, x2), (1, x3), (1, x4), (1, x5), (1, x6), (1, wlW (vw 121 (upS (upS s 123 x1.toNat (wr (x2 - x6))) 124 x1.toNat (wr (x3 + x6)))) x1.toNat)] [] (n, upS (upS s 123 x1.toNat (wr (x2 - x6))) 124 x1.toNat (wr (x3 + x6))) Q
          refine G_go rfl rfl ?_
          refine G_go rfl rfl ?_
          exact h
        · have h := h.2 c9
          refine G_go rfl rfl ?_
          refine G_go rfl rfl ?_
          refine G_go rfl rfl ?_
          show G 120 140 186 105 [(3, 120), (1, x1), (1, x2), (1, x3), (1, x6), (1, x5), (1, x6), (1, wlW (vw 121 (upS (upS s 123 x1.toNat (wr (x2 - x6))) 124 x1.toNat (wr (x3 + x6)))) x1.toNat)] [] (n, upS (upS s 123 x1.toNat (wr (x2 - x6))) 124 x1.toNat (wr (x3 + x6))) Q
          refine G_go rfl rfl ?_
          refine G_lt rfl rfl (fun hc => absurd (show x5 < 0 from hc) (by omega)) (fun _ => ?_)
          refine G_go rfl rfl ?_
          refine G_go rfl rfl ?_
          refine G_ge rfl rfl (fun hc => absurd (show x5 ≤ wlW (vw 121 (upS (upS s 123 x1.toNat (wr (x2 - x6))) 124 x1.toNat (wr (x3 + x6)))) x1.toNat from hc) (by omega)) (fun _ => ?_)
          refine G_go rfl rfl ?_
          refine G_go rfl rfl ?_
          refine G_go rfl rfl ?_
          show G 120 140 186 126 [(3, 120), (1, x1), (1, x2), (1, x3), (1, x6), (1, wlW (vw 121 (upS (upS s 123 x1.toNat (wr (x2 - x6))) 124 x1.toNat (wr (x3 + x6)))) x1.toNat), (1, x6), (1, wlW (vw 121 (upS (upS s 123 x1.toNat (wr (x2 - x6))) 124 x1.toNat (wr (x3 + x6)))) x1.toNat)] [] (n, upS (upS s 123 x1.toNat (wr (x2 - x6))) 124 x1.toNat (wr (x3 + x6))) Q
          refine G_go rfl rfl ?_
          refine G_go rfl rfl ?_
          exact h
theorem sb_X7_hide_84 (n : Nat) (s : Nat → Nat → Int) (Q : List Vl → Sto → Prop) (x1 : Int) (x2 : Int) (x3 : Int) (x4 : Int) (x5 : Int) (x6 : Int) (x7 : Int) (hR : refs s)
    (h : (x5 < 0 → G 120 140 186 42 [(3, 120), (1, x1), (1, x2), (1, x3), (1, x6), (1, x7), (1, wr (x6 + 1)), (1, x7)] [] (n, s) Q) ∧ (0 ≤ x5 → (x5 ≤ x7 → G 120 140 186 42 [(3, 120), (1, x1), (1, x2), (1, x3), (1, x4), (1, x5), (1, wr (x6 + 1)), (1, x7)] [] (n, s) Q) ∧ (x7 < x5 → G 120 140 186 42 [(3, 120), (1, x1), (1, x2), (1, x3), (1, x6), (1, x7), (1, wr (x6 + 1)), (1, x7)] [] (n, s) Q))) :
    G 120 140 186 84 [(3, 120), (1, x1), (1, x2), (1, x3), (1, x4), (1, x5), (1, x6), (1, x7)] [] (n, s) Q := by
  refine G_go rfl rfl ?_
  refine G_lt rfl rfl (fun c1 => ?_) (fun c1 => ?_)
  · have h := h.1 c1
    refine G_go rfl rfl ?_
    refine G_go rfl rfl ?_
    refine G_go rfl rfl ?_
    show G 120 140 186 105 [(3, 120), (1, x1), (1, x2), (1, x3), (1, x6), (1, x5), (1, x6), (1, x7)] [] (n, s) Q
    refine G_go rfl rfl ?_
    refine G_lt rfl rfl (fun _ => ?_) (fun hc => absurd (show 0 ≤ x5 from hc) (by omega))
    refine G_go rfl rfl ?_
    refine G_go rfl rfl ?_
    refine G_go rfl rfl ?_
    show G 120 140 186 126 [(3, 120), (1, x1), (1, x2), (1, x3), (1, x6), (1, x7), (1, x6), (1, x7)] [] (n, s) Q
    refine G_go rfl rfl ?_
    refine G_go rfl rfl ?_
    exact h
  · have h := h.2 c1
    refine G_go rfl rfl ?_
    refine G_go rfl rfl ?_
    refine G_ge rfl rfl (fun c2 => ?_) (fun c2 => ?_)
    · have h := h.1 c2
      refine G_go rfl rfl ?_
      refine G_go rfl rfl ?_
      show G 120 140 186 105 [(3, 120), (1, x1), (1, x2), (1, x3), (1, x4), (1, x5), (1, x6), (1, x7)] [] (n, s) Q
      refine G_go rfl rfl ?_
      refine G_lt rfl rfl (fun hc => absurd (show x5 < 0 from hc) (by omega)) (fun _ => ?_)
      refine G_go rfl rfl ?_
      refine G_go rfl rfl ?_
      refine G_ge rfl rfl (fun _ => ?_) (fun hc => absurd (show x7 < x5 from hc) (by omega))
      refine G_go rfl rfl ?_
      refine G_go rfl rfl ?_
      show G 120 140 186 126 [(3, 120), (1, x1), (1, x2), (1, x3), (1, x4), (1, x5), (1, x6), (1, x7)] [] (n, s) Q
      refine G_go rfl rfl ?_
      refine G_go rfl rfl ?_
      exact h
    · have h := h.2 c2
      refine G_go rfl rfl ?_
      refine G_go rfl rfl ?_
      refine G_go rfl rfl ?_
      show G 120 140 186 105 [(3, 120), (1, x1), (1, x2), (1, x3), (1, x6), (1, x5), (1, x6), (1, x7)] [] (n, s) Q
      refine G_go rfl rfl ?_
      refine G_lt rfl rfl (fun hc => absurd (show x5 < 0 from hc) (by omega)) (fun _ => ?_)
      refine G_go rfl rfl ?_
      refine G_go rfl rfl ?_
      refine G_ge rfl rfl (fun hc => absurd (show x5 ≤ x7 from hc) (by omega)) (fun _ => ?_)
      refine G_go rfl rfl ?_
      refine G_go rfl rfl ?_
      refine G_go rfl rfl ?_
      show G 120 140 186 126 [(3, 120), (1, x1), (1, x2), (1, x3), (1, x6), (1, x7), (1, x6), (1, x7)] [] (n, s) Q
      refine G_go rfl rfl ?_
      refine G_go rfl rfl ?_
      exact h
theorem sb_X7_hide_105 (n : Nat) (s : Nat → Nat → Int) (Q : List Vl → Sto → Prop) (x1 : Int) (x2 : Int) (x3 : Int) (x4 : Int) (x5 : Int) (x6 : Int) (x7 : Int) (hR : refs s)
    (h : (x5 < 0 → G 120 140 186 42 [(3, 120), (1, x1), (1, x2), (1, x3), (1, x4), (1, x7), (1, wr (x6 + 1)), (1, x7)] [] (n, s) Q) ∧ (0 ≤ x5 → (x5 ≤ x7 → G 120 140 186 42 [(3, 120), (1, x1), (1, x2), (1, x3), (1, x4), (1, x5), (1, wr (x6 + 1)), (1, x7)] [] (n, s) Q) ∧ (x7 < x5 → G 120 140 186 42 [(3, 120), (1, x1), (1, x2), (1, x3), (1, x4), (1, x7), (1, wr (x6 + 1)), (1, x7)] [] (n, s) Q))) :
    G 120 140 186 105 [(3, 120), (1, x1), (1, x2), (1, x3), (1, x4), (1, x5), (1, x6), (1, x7)] [] (n, s) Q := by
  refine G_go rfl rfl ?_
  refine G_lt rfl rfl (fun c1 => ?_) (fun c1 => ?_)
  · have h := h.1 c1
    refine G_go rfl rfl ?_
    refine G_go rfl rfl ?_
    refine G_go rfl rfl ?_
    show G 120 140 186 126 [(3, 120), (1, x1), (1, x2), (1, x3), (1, x4), (1, x7), (1, x6), (1, x7)] [] (n, s) Q
    refine G_go rfl rfl ?_
    refine G_go rfl rfl ?_
    exact h
  · have h := h.2 c1
    refine G_go rfl rfl ?_
    refine G_go rfl rfl ?_
    refine G_ge rfl rfl (fun c2 => ?_) (fun c2 => ?_)
    · have h := h.1 c2
      refine G_go rfl rfl ?_
      refine G_go rfl rfl ?_
      show G 120 140 186 126 [(3, 120), (1, x1), (1, x2), (1, x3), (1, x4), (1, x5), (1, x6), (1, x7)] [] (n, s) Q
      refine G_go rfl rfl ?_
      refine G_go rfl rfl ?_
      exact h
    · have h := h.2 c2
      refine G_go rfl rfl ?_
      refine G_go rfl rfl ?_
      refine G_go rfl rfl ?_
      show G 120 140 186 126 [(3, 120), (1, x1), (1, x2), (1, x3), (1, x4), (1, x7), (1, x6), (1, x7)] [] (n, s) Q
      refine G_go rfl rfl ?_
      refine G_go rfl rfl ?_
      exact h
theorem sb_X7_hide_126 (n : Nat) (s : Nat → Nat → Int) (Q : List Vl → Sto → Prop) (x1 : Int) (x2 : Int) (x3 : Int) (x4 : Int) (x5 : Int) (x6 : Int) (x7 : Int) (hR : refs s)
    (h : G 120 140 186 42 [(3, 120), (1, x1), (1, x2), (1, x3), (1, x4), (1, x5), (1, wr (x6 + 1)), (1, x7)] [] (n, s) Q) :
    G 120 140 186 126 [(3, 120), (1, x1), (1, x2), (1, x3), (1, x4), (1, x5), (1, x6), (1, x7)] [] (n, s) Q := by
  refine G_go rfl rfl ?_
  refine G_go rfl rfl ?_
  exact h
/-! HIDE -/
def hdW (t : Nat → Nat → Int) (p : Nat) (d : Int) : Int := wlt (t 121 p) (t 122 p) (t 123 p - d) (t 124 p + d)
def hdF (t : Nat → Nat → Int) (p : Nat) (k : Nat) (b : Int) : Int := if hdW t p ((k + 1 : Nat) : Int) < hdW t p b then ((k + 1 : Nat) : Int) else b
def hdM (t : Nat → Nat → Int) (p : Nat) : Nat := (min (t 123 p) (99 - t 124 p)).toNat
def hdI (k : Nat) (b : Int) : Prop := 0 ≤ b ∧ b ≤ k
theorem hdF_in {t : Nat → Nat → Int} {p k : Nat} {b : Int} (h : hdI k b) : hdI (k + 1) (hdF t p k b) := by
  unfold hdF hdI at *
  split
  all_goals omega
theorem cl_hide (n : Nat) (s t : Nat → Nat → Int) (h : REL s t) (p : Nat) (hp : (p : Int) < t 120 0) (Q : List Vl → Sto → Prop) (hq : Q [(1, itr (hdF t p) 0 (hdM t p))] (n, s)) : G 2 120 90 75 [(3, 2), (1, (p : Int)), (1, 0), (1, s 4 p), (1, s 5 p), (1, s 6 p), (1, s 7 p), (1, 0), (1, wlt (s 4 p) (s 5 p) (s 6 p) (s 7 p)), (1, 1), (0, 0)] [] (n, s) Q := by
  have ht := h.t p hp
  obtain ⟨s0, s1, s2, s3, _⟩ := h.s p hp
  rw [s0, s1, s2, s3]
  have e0 : wlt (t 121 p) (t 122 p) (t 123 p) (t 124 p) = hdW t p 0 := by
    unfold hdW
    rw [Int.sub_zero, Int.add_zero]
  rw [e0]
  refine G_up (hdM t p) (fun k b => ∀ w, G 2 120 90 75 [(3, 2), (1, (p : Int)), (1, 0), (1, t 121 p), (1, t 122 p), (1, t 123 p), (1, t 124 p), (1, b), (1, hdW t p b), (1, ((k + 1 : Nat) : Int)), w] [] (n, s) Q) (hdF t p) hdI 0 ⟨by omega, by omega⟩ (fun k b _ hb => hdF_in hb) (fun k b hk hb hg w => ?_) (fun _ w => ?_) (0, 0)
  · have hk2 : k < (min (t 123 p) (99 - t 124 p)).toNat := hk
    rw [← wr_s (show k + 1 < 2000 by omega) (by omega)] at hg
    refine sb_X6_hide_75 n s Q _ _ _ _ _ _ _ _ _ w h.1 ⟨fun e => by omega, fun _ => ?_⟩
    rw [wr_id (x := t 124 p + ((k + 1 : Nat) : Int)) (by omega) (by omega), wr_id (x := t 123 p - ((k + 1 : Nat) : Int)) (by omega) (by omega)]
    refine ⟨fun e => by omega, fun _ => ⟨by omega, by omega, by omega, fun c => ?_, fun c => ?_⟩⟩
    · have c : hdW t p b ≤ hdW t p ((k + 1 : Nat) : Int) := c
      rw [show hdF t p k b = b from if_neg (by omega)] at hg
      exact hg _
    · have c : hdW t p ((k + 1 : Nat) : Int) < hdW t p b := c
      rw [show hdF t p k b = ((k + 1 : Nat) : Int) from if_pos c] at hg
      exact hg _
  · have hM : hdM t p = (min (t 123 p) (99 - t 124 p)).toNat := rfl
    refine sb_X6_hide_75 n s Q _ _ _ _ _ _ _ _ _ w h.1 ⟨fun _ => hq, fun _ => ?_⟩
    rw [wr_id (x := t 124 p + ((hdM t p + 1 : Nat) : Int)) (by omega) (by omega)]
    exact ⟨fun _ => hq, fun e => by omega⟩
theorem upS_col {t : Nat → Nat → Int} {p : Nat} {x y x' y' : Int} : upS (upS (upS (upS t 123 p x) 124 p y) 123 p x') 124 p y' = upS (upS t 123 p x') 124 p y' := by
  funext i j
  simp only [upS]
  by_cases c1 : i = 123 <;> by_cases c2 : i = 124 <;> by_cases c3 : j = p <;> simp_all
theorem wlW_c {t : Nat → Nat → Int} {p : Nat} {x y : Int} : wlW (vw 121 (upS (upS t 123 p x) 124 p y)) p = wlt (t 121 p) (t 122 p) x y := by
  unfold wlW vw upS
  simp
theorem rl_hide (n : Nat) (s t : Nat → Nat → Int) (h : REL s t) (p : Nat) (hp : (p : Int) < t 120 0) (Q : List Vl → Sto → Prop) (hq : Q [(1, itr (hdF t p) 0 (hdM t p))] (n, t)) : G 120 140 186 42 [(3, 120), (1, (p : Int)), (1, t 123 p), (1, t 124 p), (1, 0), (1, (-1)), (1, 0), (0, 0)] [] (n, t) Q := by
  obtain ⟨hn1, hn2, hn3, hn4⟩ := h.np
  have ht := h.t p hp
  have hw0 : ∀ d : Int, 0 ≤ d → d ≤ t 123 p → d ≤ 99 - t 124 p → 0 ≤ hdW t p d := fun d d1 d2 d3 => (wlt_rg ht.2.1 ⟨by omega, by omega⟩ ⟨by omega, by omega⟩).1
  have step : ∀ (t1 : Nat → Nat → Int), upS (upS t1 123 p (t 123 p)) 124 p (t 124 p) = t → t1 121 p = t 121 p ∧ t1 122 p = t 122 p := by
    intro t1 e
    constructor
    · rw [← e]
      simp [upS]
    · rw [← e]
      simp [upS]
  have rgs : ∀ (t1 : Nat → Nat → Int) (x y : Int), upS (upS t1 123 p (t 123 p)) 124 p (t 124 p) = t → 0 ≤ x ∧ x ≤ 2000 → 0 ≤ y ∧ y ≤ 200 → rgP (vw 121 (upS (upS t1 123 p x) 124 p y)) p ∧ (0 ≤ vw 121 (upS (upS t1 123 p x) 124 p y) 2 p ∧ vw 121 (upS (upS t1 123 p x) 124 p y) 2 p ≤ 2000) := by
    intro t1 x y e hx hy
    have e2 := (step t1 e).2
    refine ⟨⟨?_, ?_⟩, ?_⟩
    · show 0 ≤ upS (upS t1 123 p x) 124 p y 122 p ∧ upS (upS t1 123 p x) 124 p y 122 p ≤ 9
      simp [upS]
      omega
    · show 0 ≤ upS (upS t1 123 p x) 124 p y 124 p ∧ upS (upS t1 123 p x) 124 p y 124 p ≤ 200
      simp [upS]
      omega
    · show 0 ≤ upS (upS t1 123 p x) 124 p y 123 p ∧ upS (upS t1 123 p x) 124 p y 123 p ≤ 2000
      simp [upS]
      omega
  have loop : ∀ w t1, refs t1 → upS (upS t1 123 p (t 123 p)) 124 p (t 124 p) = t → G 120 140 186 42 [(3, 120), (1, (p : Int)), (1, t 123 p), (1, t 124 p), (1, 0), (1, hdW t p 0), (1, 1), w] [] (n, t1) Q := by
    refine G_up (hdM t p) (fun k b => ∀ w t1, refs t1 → upS (upS t1 123 p (t 123 p)) 124 p (t 124 p) = t → G 120 140 186 42 [(3, 120), (1, (p : Int)), (1, t 123 p), (1, t 124 p), (1, b), (1, hdW t p b), (1, ((k + 1 : Nat) : Int)), w] [] (n, t1) Q) (hdF t p) hdI 0 ⟨by omega, by omega⟩ (fun k b _ hb => hdF_in hb) (fun k b hk hb hg w t1 hR he => ?_) (fun _ w t1 hR he => ?_)
    · have hk2 : k < (min (t 123 p) (99 - t 124 p)).toNat := hk
      have hb2 : 0 ≤ b ∧ b ≤ k := hb
      have hb0 := hw0 b (by omega) (by omega) (by omega)
      rw [← wr_s (show k + 1 < 2000 by omega) (by omega)] at hg
      refine sb_X7_hide_42 n t1 Q _ _ _ _ _ _ w hR ⟨fun e => by omega, fun _ => ?_⟩
      rw [wr_id (x := t 124 p + ((k + 1 : Nat) : Int)) (by omega) (by omega), wr_id (x := t 123 p - ((k + 1 : Nat) : Int)) (by omega) (by omega), Int.toNat_natCast]
      have hr := rgs t1 (t 123 p - ((k + 1 : Nat) : Int)) (t 124 p + ((k + 1 : Nat) : Int)) he (by omega) (by omega)
      have ew : wlW (vw 121 (upS (upS t1 123 p (t 123 p - ((k + 1 : Nat) : Int))) 124 p (t 124 p + ((k + 1 : Nat) : Int)))) p = hdW t p ((k + 1 : Nat) : Int) := by
        rw [wlW_c, (step t1 he).1, (step t1 he).2]
        rfl
      rw [ew]
      have hR2 : refs (upS (upS t1 123 p (t 123 p - ((k + 1 : Nat) : Int))) 124 p (t 124 p + ((k + 1 : Nat) : Int))) := refs_up (refs_up hR rfl) rfl
      have he2 : upS (upS (upS (upS t1 123 p (t 123 p - ((k + 1 : Nat) : Int))) 124 p (t 124 p + ((k + 1 : Nat) : Int))) 123 p (t 123 p)) 124 p (t 124 p) = t := by rw [upS_col]; exact he
      refine ⟨fun e => by omega, fun _ => ⟨by omega, hr.1, hr.2, fun c => by omega, fun _ => ⟨fun c => ?_, fun c => ?_⟩⟩⟩
      · rw [show hdF t p k b = b from if_neg (by omega)] at hg
        exact hg _ _ hR2 he2
      · rw [show hdF t p k b = ((k + 1 : Nat) : Int) from if_pos c] at hg
        exact hg _ _ hR2 he2
    · have hM : hdM t p = (min (t 123 p) (99 - t 124 p)).toNat := rfl
      refine sb_X7_hide_42 n t1 Q _ _ _ _ _ _ w hR ?_
      rw [wr_id (x := t 124 p + ((hdM t p + 1 : Nat) : Int)) (by omega) (by omega), Int.toNat_natCast, he]
      exact ⟨fun _ => ⟨by omega, hq⟩, fun _ => ⟨fun _ => ⟨by omega, hq⟩, fun e => by omega⟩⟩
  refine sb_X7_hide_42 n t Q _ _ _ _ _ _ _ h.2.1 ⟨fun e => by omega, fun _ => ?_⟩
  have et : upS (upS t 123 p (t 123 p)) 124 p (t 124 p) = t := by
    funext i j
    simp only [upS]
    by_cases c1 : i = 123 <;> by_cases c2 : i = 124 <;> by_cases c3 : j = p <;> simp_all
  rw [Int.add_zero, Int.sub_zero, wr_id (x := t 124 p) (by omega) (by omega), wr_id (x := t 123 p) (by omega) (by omega), Int.toNat_natCast, et]
  refine ⟨fun e => by omega, fun _ => ⟨by omega, (h.rg p hp).2.1, (h.rg p hp).2.2.2.1, fun _ => ?_, fun c => by omega⟩⟩
  have e0 : wlW (vw 121 t) p = hdW t p 0 := by
    unfold hdW
    rw [Int.sub_zero, Int.add_zero]
    rfl
  rw [e0]
  exact loop _ t h.2.1 et
theorem op_hide (n : Nat) (s t : Nat → Nat → Int) (h : REL s t) (a0 : Int) : G 2 120 90 0 [(3, 2), (1, a0), (0, 0), (0, 0), (0, 0), (0, 0), (0, 0), (0, 0), (0, 0), (0, 0), (0, 0)] [] (n, s) (fun r s1 => G 120 140 186 0 [(3, 120), (1, a0), (0, 0), (0, 0), (0, 0), (0, 0), (0, 0), (0, 0)] [] (n, t) (Post n r s1)) := by
  obtain ⟨hn1, hn2, hn3, hn4⟩ := h.np
  have hw : wr (t 120 0 - 1) = t 120 0 - 1 := wr_id (by omega) (by omega)
  have h1 : ∀ z : Int, 0 ≤ z → z < t 120 0 → ∃ p : Nat, z = p ∧ (p : Int) < t 120 0 := fun z h1 h2 => ⟨z.toNat, by omega, by omega⟩
  refine sb_X6_hide_0 n s _ a0 h.1 ⟨fun c => ?_, fun c => ⟨fun d => ?_, fun d => ?_⟩⟩
  · refine sb_X7_hide_0 n t _ a0 h.2.1 ⟨fun c => post_ref h 1 (by decide), fun e => by omega⟩
  · refine sb_X7_hide_0 n t _ a0 h.2.1 ⟨fun c => by omega, fun e => ⟨fun f => post_ref h 1 (by decide), fun f => by omega⟩⟩
  · obtain ⟨p, rfl, hp⟩ := h1 a0 c (by omega)
    obtain ⟨⟨g1, g2⟩, _, g3, g4, g5, g6⟩ := h.rg p hp
    rw [Int.toNat_natCast]
    refine ⟨by omega, g1, g3, g2, ?_⟩
    refine cl_hide n s _ h.up p hp _ ?_
    refine sb_X7_hide_0 n t _ _ h.2.1 ⟨fun c => by omega, fun e => ⟨fun f => by omega, fun f => ⟨by omega, ?_⟩⟩⟩
    rw [Int.toNat_natCast]
    exact rl_hide n s _ h.up p hp _ (post_same h rfl)
end
section
theorem sb_X6_give_0 (n : Nat) (s : Nat → Nat → Int) (Q : List Vl → Sto → Prop) (a0 : Int) (a1 : Int) (a2 : Int) (hR : refs s)
    (h : (a0 < 0 → (1 ≤ a2 → (a2 ≤ 99 → Q [(1, (-1))] (n, upS s 119 1 (wr ((s 119 1) + 1)))) ∧ (99 < a2 → Q [(1, (-1))] (n, upS s 119 1 (wr ((s 119 1) + 1))))) ∧ (a2 < 1 → Q [(1, (-1))] (n, upS s 119 1 (wr ((s 119 1) + 1))))) ∧ (0 ≤ a0 → (s 3 9 ≤ a0 → (1 ≤ a2 → (a2 ≤ 99 → Q [(1, (-1))] (n, upS s 119 1 (wr ((s 119 1) + 1)))) ∧ (99 < a2 → Q [(1, (-1))] (n, upS s 119 1 (wr ((s 119 1) + 1))))) ∧ (a2 < 1 → Q [(1, (-1))] (n, upS s 119 1 (wr ((s 119 1) + 1))))) ∧ (a0 < s 3 9 → (a1 < 0 → (1 ≤ a2 → (a2 ≤ 99 → Q [(1, (-1))] (n, upS s 119 1 (wr ((s 119 1) + 1)))) ∧ (99 < a2 → Q [(1, (-1))] (n, upS s 119 1 (wr ((s 119 1) + 1))))) ∧ (a2 < 1 → Q [(1, (-1))] (n, upS s 119 1 (wr ((s 119 1) + 1))))) ∧ (0 ≤ a1 → (s 3 9 ≤ a1 → (1 ≤ a2 → (a2 ≤ 99 → Q [(1, (-1))] (n, upS s 119 1 (wr ((s 119 1) + 1)))) ∧ (99 < a2 → Q [(1, (-1))] (n, upS s 119 1 (wr ((s 119 1) + 1))))) ∧ (a2 < 1 → Q [(1, (-1))] (n, upS s 119 1 (wr ((s 119 1) + 1))))) ∧ (a1 < s 3 9 → (a0 = a1 → (1 ≤ a2 → (a2 ≤ 99 → Q [(1, (-1))] (n, upS s 119 1 (wr ((s 119 1) + 1)))) ∧ (99 < a2 → Q [(1, (-1))] (n, upS s 119 1 (wr ((s 119 1) + 1))))) ∧ (a2 < 1 → Q [(1, (-1))] (n, upS s 119 1 (wr ((s 119 1) + 1))))) ∧ (a0 ≠ a1 → (1 ≤ a2 → (a2 ≤ 99 → (0 ≤ a0 ∧ a0 < 6) ∧ (G 2 120 85 44 [(3, 2), (1, a0), (1, a1), (1, a2), (1, 0), (1, s 6 a0.toNat), (1, 0)] [] (n, s) Q)) ∧ (99 < a2 → Q [(1, (-6))] (n, upS s 119 6 (wr ((s 119 6) + 1))))) ∧ (a2 < 1 → Q [(1, (-4))] (n, upS s 119 4 (wr ((s 119 4) + 1)))))))))) :
    G 2 120 85 0 [(3, 2), (1, a0), (1, a1), (1, a2), (0, 0), (0, 0), (0, 0)] [] (n, s) Q := by
  refine G_go rfl rfl ?_
  refine G_go rfl rfl ?_
  refine G_go rfl rfl ?_
  refine G_call rfl rfl ?_
  refine G_go rfl rfl ?_
  refine G_rf rfl rfl (by decide) (hR 2 0 3 rfl) ?_
  refine G_go rfl rfl ?_
  refine G_call rfl rfl ?_
  refine G_go rfl rfl ?_
  refine G_lt rfl rfl (fun c1 => ?_) (fun c1 => ?_)
  · have h := h.1 c1
    refine G_go rfl rfl ?_
    refine G_ret rfl rfl ?_
    refine G_brT rfl rfl rfl ?_
    refine G_go rfl rfl ?_
    refine G_ret rfl rfl ?_
    refine G_go rfl rfl ?_
    refine G_go rfl rfl ?_
    refine G_go rfl rfl ?_
    refine G_call rfl rfl ?_
    refine G_go rfl rfl ?_
    refine G_go rfl rfl ?_
    refine G_ge rfl rfl (fun c2 => ?_) (fun c2 => ?_)
    · have h := h.1 c2
      refine G_go rfl rfl ?_
      refine G_go rfl rfl ?_
      refine G_le rfl rfl (fun c3 => ?_) (fun c3 => ?_)
      · have h := h.1 c3
        refine G_go rfl rfl ?_
        refine G_ret rfl rfl ?_
        refine G_call rfl rfl ?_
        refine G_go rfl rfl ?_
        refine G_brF rfl rfl rfl ?_
        refine G_go rfl rfl ?_
        refine G_go rfl rfl ?_
        refine G_ret rfl rfl ?_
        refine G_go rfl rfl ?_
        show G 2 120 85 18 [(3, 2), (1, a0), (1, a1), (1, a2), (1, (-1)), (0, 0), (0, 0)] [] (n, s) Q
        refine G_go rfl rfl ?_
        refine G_brF rfl rfl rfl ?_
        refine G_go rfl rfl ?_
        refine G_go rfl rfl ?_
        refine G_call rfl rfl ?_
        refine G_go rfl rfl ?_
        refine G_go rfl rfl ?_
        refine G_go rfl rfl ?_
        refine G_go rfl rfl ?_
        refine G_brF rfl rfl rfl ?_
        refine G_go rfl rfl ?_
        refine G_go rfl rfl ?_
        refine G_rf rfl rfl (by decide) (hR 2 7 119 rfl) ?_
        refine G_go rfl rfl ?_
        refine G_brF rfl rfl rfl ?_
        refine G_go rfl rfl ?_
        refine G_rf rfl rfl (by decide) (hR 2 7 119 rfl) ?_
        refine G_go rfl rfl ?_
        refine G_go rfl rfl ?_
        refine G_ir (n := 7) rfl rfl (by decide) (by decide) (by decide) ?_
        refine G_go rfl rfl ?_
        refine G_go rfl rfl ?_
        refine G_iw (n := 7) rfl rfl (by decide) (by decide) (by decide) ?_
        have hR := refs_up (a := 119) (k := 1) (x := wr ((s 119 1) + 1)) hR rfl
        refine G_go rfl rfl ?_
        refine G_ret rfl rfl ?_
        exact G_ret rfl rfl h
      · have h := h.2 c3
        refine G_go rfl rfl ?_
        refine G_go rfl rfl ?_
        refine G_ret rfl rfl ?_
        refine G_call rfl rfl ?_
        refine G_go rfl rfl ?_
        refine G_brF rfl rfl rfl ?_
        refine G_go rfl rfl ?_
        refine G_go rfl rfl ?_
        refine G_ret rfl rfl ?_
        refine G_go rfl rfl ?_
        show G 2 120 85 18 [(3, 2), (1, a0), (1, a1), (1, a2), (1, (-1)), (0, 0), (0, 0)] [] (n, s) Q
        refine G_go rfl rfl ?_
        refine G_brF rfl rfl rfl ?_
        refine G_go rfl rfl ?_
        refine G_go rfl rfl ?_
        refine G_call rfl rfl ?_
        refine G_go rfl rfl ?_
        refine G_go rfl rfl ?_
        refine G_go rfl rfl ?_
        refine G_go rfl rfl ?_
        refine G_brF rfl rfl rfl ?_
        refine G_go rfl rfl ?_
        refine G_go rfl rfl ?_
        refine G_rf rfl rfl (by decide) (hR 2 7 119 rfl) ?_
        refine G_go rfl rfl ?_
        refine G_brF rfl rfl rfl ?_
        refine G_go rfl rfl ?_
        refine G_rf rfl rfl (by decide) (hR 2 7 119 rfl) ?_
        refine G_go rfl rfl ?_
        refine G_go rfl rfl ?_
        refine G_ir (n := 7) rfl rfl (by decide) (by decide) (by decide) ?_
        refine G_go rfl rfl ?_
        refine G_go rfl rfl ?_
        refine G_iw (n := 7) rfl rfl (by decide) (by decide) (by decide) ?_
        have hR := refs_up (a := 119) (k := 1) (x := wr ((s 119 1) + 1)) hR rfl
        refine G_go rfl rfl ?_
        refine G_ret rfl rfl ?_
        exact G_ret rfl rfl h
    · have h := h.2 c2
      refine G_go rfl rfl ?_
      refine G_ret rfl rfl ?_
      refine G_call rfl rfl ?_
      refine G_go rfl rfl ?_
      refine G_brF rfl rfl rfl ?_
      refine G_go rfl rfl ?_
      refine G_go rfl rfl ?_
      refine G_ret rfl rfl ?_
      refine G_go rfl rfl ?_
      show G 2 120 85 18 [(3, 2), (1, a0), (1, a1), (1, a2), (1, (-1)), (0, 0), (0, 0)] [] (n, s) Q
      refine G_go rfl rfl ?_
      refine G_brF rfl rfl rfl ?_
      refine G_go rfl rfl ?_
      refine G_go rfl rfl ?_
      refine G_call rfl rfl ?_
      refine G_go rfl rfl ?_
      refine G_go rfl rfl ?_
      refine G_go rfl rfl ?_
      refine G_go rfl rfl ?_
      refine G_brF rfl rfl rfl ?_
      refine G_go rfl rfl ?_
      refine G_go rfl rfl ?_
      refine G_rf rfl rfl (by decide) (hR 2 7 119 rfl) ?_
      refine G_go rfl rfl ?_
      refine G_brF rfl rfl rfl ?_
      refine G_go rfl rfl ?_
      refine G_rf rfl rfl (by decide) (hR 2 7 119 rfl) ?_
      refine G_go rfl rfl ?_
      refine G_go rfl rfl ?_
      refine G_ir (n := 7) rfl rfl (by decide) (by decide) (by decide) ?_
      refine G_go rfl rfl ?_
      refine G_go rfl rfl ?_
      refine G_iw (n := 7) rfl rfl (by decide) (by decide) (by decide) ?_
      have hR := refs_up (a := 119) (k := 1) (x := wr ((s 119 1) + 1)) hR rfl
      refine G_go rfl rfl ?_
      refine G_ret rfl rfl ?_
      exact G_ret rfl rfl h
  · have h := h.2 c1
    refine G_go rfl rfl ?_
    refine G_go rfl rfl ?_
    refine G_rd rfl rfl (by decide) ?_
    refine G_ge rfl rfl (fun c4 => ?_) (fun c4 => ?_)
    · have h := h.1 c4
      refine G_go rfl rfl ?_
      refine G_ret rfl rfl ?_
      refine G_brT rfl rfl rfl ?_
      refine G_go rfl rfl ?_
      refine G_ret rfl rfl ?_
      refine G_go rfl rfl ?_
      refine G_go rfl rfl ?_
      refine G_go rfl rfl ?_
      refine G_call rfl rfl ?_
      refine G_go rfl rfl ?_
      refine G_go rfl rfl ?_
      refine G_ge rfl rfl (fun c5 => ?_) (fun c5 => ?_)
      · have h := h.1 c5
        refine G_go rfl rfl ?_
        refine G_go rfl rfl ?_
        refine G_le rfl rfl (fun c6 => ?_) (fun c6 => ?_)
        · have h := h.1 c6
          refine G_go rfl rfl ?_
          refine G_ret rfl rfl ?_
          refine G_call rfl rfl ?_
          refine G_go rfl rfl ?_
          refine G_brF rfl rfl rfl ?_
          refine G_go rfl rfl ?_
          refine G_go rfl rfl ?_
          refine G_ret rfl rfl ?_
          refine G_go rfl rfl ?_
          show G 2 120 85 18 [(3, 2), (1, a0), (1, a1), (1, a2), (1, (-1)), (0, 0), (0, 0)] [] (n, s) Q
          refine G_go rfl rfl ?_
          refine G_brF rfl rfl rfl ?_
          refine G_go rfl rfl ?_
          refine G_go rfl rfl ?_
          refine G_call rfl rfl ?_
          refine G_go rfl rfl ?_
          refine G_go rfl rfl ?_
          refine G_go rfl rfl ?_
          refine G_go rfl rfl ?_
          refine G_brF rfl rfl rfl ?_
          refine G_go rfl rfl ?_
          refine G_go rfl rfl ?_
          refine G_rf rfl rfl (by decide) (hR 2 7 119 rfl) ?_
          refine G_go rfl rfl ?_
          refine G_brF rfl rfl rfl ?_
          refine G_go rfl rfl ?_
          refine G_rf rfl rfl (by decide) (hR 2 7 119 rfl) ?_
          refine G_go rfl rfl ?_
          refine G_go rfl rfl ?_
          refine G_ir (n := 7) rfl rfl (by decide) (by decide) (by decide) ?_
          refine G_go rfl rfl ?_
          refine G_go rfl rfl ?_
          refine G_iw (n := 7) rfl rfl (by decide) (by decide) (by decide) ?_
          have hR := refs_up (a := 119) (k := 1) (x := wr ((s 119 1) + 1)) hR rfl
          refine G_go rfl rfl ?_
          refine G_ret rfl rfl ?_
          exact G_ret rfl rfl h
        · have h := h.2 c6
          refine G_go rfl rfl ?_
          refine G_go rfl rfl ?_
          refine G_ret rfl rfl ?_
          refine G_call rfl rfl ?_
          refine G_go rfl rfl ?_
          refine G_brF rfl rfl rfl ?_
          refine G_go rfl rfl ?_
          refine G_go rfl rfl ?_
          refine G_ret rfl rfl ?_
          refine G_go rfl rfl ?_
          show G 2 120 85 18 [(3, 2), (1, a0), (1, a1), (1, a2), (1, (-1)), (0, 0), (0, 0)] [] (n, s) Q
          refine G_go rfl rfl ?_
          refine G_brF rfl rfl rfl ?_
          refine G_go rfl rfl ?_
          refine G_go rfl rfl ?_
          refine G_call rfl rfl ?_
          refine G_go rfl rfl ?_
          refine G_go rfl rfl ?_
          refine G_go rfl rfl ?_
          refine G_go rfl rfl ?_
          refine G_brF rfl rfl rfl ?_
          refine G_go rfl rfl ?_
          refine G_go rfl rfl ?_
          refine G_rf rfl rfl (by decide) (hR 2 7 119 rfl) ?_
          refine G_go rfl rfl ?_
          refine G_brF rfl rfl rfl ?_
          refine G_go rfl rfl ?_
          refine G_rf rfl rfl (by decide) (hR 2 7 119 rfl) ?_
          refine G_go rfl rfl ?_
          refine G_go rfl rfl ?_
          refine G_ir (n := 7) rfl rfl (by decide) (by decide) (by decide) ?_
          refine G_go rfl rfl ?_
          refine G_go rfl rfl ?_
          refine G_iw (n := 7) rfl rfl (by decide) (by decide) (by decide) ?_
          have hR := refs_up (a := 119) (k := 1) (x := wr ((s 119 1) + 1)) hR rfl
          refine G_go rfl rfl ?_
          refine G_ret rfl rfl ?_
          exact G_ret rfl rfl h
      · have h := h.2 c5
        refine G_go rfl rfl ?_
        refine G_ret rfl rfl ?_
        refine G_call rfl rfl ?_
        refine G_go rfl rfl ?_
        refine G_brF rfl rfl rfl ?_
        refine G_go rfl rfl ?_
        refine G_go rfl rfl ?_
        refine G_ret rfl rfl ?_
        refine G_go rfl rfl ?_
        show G 2 120 85 18 [(3, 2), (1, a0), (1, a1), (1, a2), (1, (-1)), (0, 0), (0, 0)] [] (n, s) Q
        refine G_go rfl rfl ?_
        refine G_brF rfl rfl rfl ?_
        refine G_go rfl rfl ?_
        refine G_go rfl rfl ?_
        refine G_call rfl rfl ?_
        refine G_go rfl rfl ?_
        refine G_go rfl rfl ?_
        refine G_go rfl rfl ?_
        refine G_go rfl rfl ?_
        refine G_brF rfl rfl rfl ?_
        refine G_go rfl rfl ?_
        refine G_go rfl rfl ?_
        refine G_rf rfl rfl (by decide) (hR 2 7 119 rfl) ?_
        refine G_go rfl rfl ?_
        refine G_brF rfl rfl rfl ?_
        refine G_go rfl rfl ?_
        refine G_rf rfl rfl (by decide) (hR 2 7 119 rfl) ?_
        refine G_go rfl rfl ?_
        refine G_go rfl rfl ?_
        refine G_ir (n := 7) rfl rfl (by decide) (by decide) (by decide) ?_
        refine G_go rfl rfl ?_
        refine G_go rfl rfl ?_
        refine G_iw (n := 7) rfl rfl (by decide) (by decide) (by decide) ?_
        have hR := refs_up (a := 119) (k := 1) (x := wr ((s 119 1) + 1)) hR rfl
        refine G_go rfl rfl ?_
        refine G_ret rfl rfl ?_
        exact G_ret rfl rfl h
    · have h := h.2 c4
      refine G_go rfl rfl ?_
      refine G_go rfl rfl ?_
      refine G_ret rfl rfl ?_
      refine G_brF rfl rfl rfl ?_
      refine G_go rfl rfl ?_
      refine G_rf rfl rfl (by decide) (hR 2 0 3 rfl) ?_
      refine G_go rfl rfl ?_
      refine G_call rfl rfl ?_
      refine G_go rfl rfl ?_
      refine G_lt rfl rfl (fun c7 => ?_) (fun c7 => ?_)
      · have h := h.1 c7
        refine G_go rfl rfl ?_
        refine G_ret rfl rfl ?_
        refine G_brT rfl rfl rfl ?_
        refine G_go rfl rfl ?_
        refine G_ret rfl rfl ?_
        refine G_go rfl rfl ?_
        refine G_go rfl rfl ?_
        refine G_go rfl rfl ?_
        refine G_call rfl rfl ?_
        refine G_go rfl rfl ?_
        refine G_go rfl rfl ?_
        refine G_ge rfl rfl (fun c8 => ?_) (fun c8 => ?_)
        · have h := h.1 c8
          refine G_go rfl rfl ?_
          refine G_go rfl rfl ?_
          refine G_le rfl rfl (fun c9 => ?_) (fun c9 => ?_)
          · have h := h.1 c9
            refine G_go rfl rfl ?_
            refine G_ret rfl rfl ?_
            refine G_call rfl rfl ?_
            refine G_go rfl rfl ?_
            refine G_brF rfl rfl rfl ?_
            refine G_go rfl rfl ?_
            refine G_go rfl rfl ?_
            refine G_ret rfl rfl ?_
            refine G_go rfl rfl ?_
            show G 2 120 85 18 [(3, 2), (1, a0), (1, a1), (1, a2), (1, (-1)), (0, 0), (0, 0)] [] (n, s) Q
            refine G_go rfl rfl ?_
            refine G_brF rfl rfl rfl ?_
            refine G_go rfl rfl ?_
            refine G_go rfl rfl ?_
            refine G_call rfl rfl ?_
            refine G_go rfl rfl ?_
            refine G_go rfl rfl ?_
            refine G_go rfl rfl ?_
            refine G_go rfl rfl ?_
            refine G_brF rfl rfl rfl ?_
            refine G_go rfl rfl ?_
            refine G_go rfl rfl ?_
            refine G_rf rfl rfl (by decide) (hR 2 7 119 rfl) ?_
            refine G_go rfl rfl ?_
            refine G_brF rfl rfl rfl ?_
            refine G_go rfl rfl ?_
            refine G_rf rfl rfl (by decide) (hR 2 7 119 rfl) ?_
            refine G_go rfl rfl ?_
            refine G_go rfl rfl ?_
            refine G_ir (n := 7) rfl rfl (by decide) (by decide) (by decide) ?_
            refine G_go rfl rfl ?_
            refine G_go rfl rfl ?_
            refine G_iw (n := 7) rfl rfl (by decide) (by decide) (by decide) ?_
            have hR := refs_up (a := 119) (k := 1) (x := wr ((s 119 1) + 1)) hR rfl
            refine G_go rfl rfl ?_
            refine G_ret rfl rfl ?_
            exact G_ret rfl rfl h
          · have h := h.2 c9
            refine G_go rfl rfl ?_
            refine G_go rfl rfl ?_
            refine G_ret rfl rfl ?_
            refine G_call rfl rfl ?_
            refine G_go rfl rfl ?_
            refine G_brF rfl rfl rfl ?_
            refine G_go rfl rfl ?_
            refine G_go rfl rfl ?_
            refine G_ret rfl rfl ?_
            refine G_go rfl rfl ?_
            show G 2 120 85 18 [(3, 2), (1, a0), (1, a1), (1, a2), (1, (-1)), (0, 0), (0, 0)] [] (n, s) Q
            refine G_go rfl rfl ?_
            refine G_brF rfl rfl rfl ?_
            refine G_go rfl rfl ?_
            refine G_go rfl rfl ?_
            refine G_call rfl rfl ?_
            refine G_go rfl rfl ?_
            refine G_go rfl rfl ?_
            refine G_go rfl rfl ?_
            refine G_go rfl rfl ?_
            refine G_brF rfl rfl rfl ?_
            refine G_go rfl rfl ?_
            refine G_go rfl rfl ?_
            refine G_rf rfl rfl (by decide) (hR 2 7 119 rfl) ?_
            refine G_go rfl rfl ?_
            refine G_brF rfl rfl rfl ?_
            refine G_go rfl rfl ?_
            refine G_rf rfl rfl (by decide) (hR 2 7 119 rfl) ?_
            refine G_go rfl rfl ?_
            refine G_go rfl rfl ?_
            refine G_ir (n := 7) rfl rfl (by decide) (by decide) (by decide) ?_
            refine G_go rfl rfl ?_
            refine G_go rfl rfl ?_
            refine G_iw (n := 7) rfl rfl (by decide) (by decide) (by decide) ?_
            have hR := refs_up (a := 119) (k := 1) (x := wr ((s 119 1) + 1)) hR rfl
            refine G_go rfl rfl ?_
            refine G_ret rfl rfl ?_
            exact G_ret rfl rfl h
        · have h := h.2 c8
          refine G_go rfl rfl ?_
          refine G_ret rfl rfl ?_
          refine G_call rfl rfl ?_
          refine G_go rfl rfl ?_
          refine G_brF rfl rfl rfl ?_
          refine G_go rfl rfl ?_
          refine G_go rfl rfl ?_
          refine G_ret rfl rfl ?_
          refine G_go rfl rfl ?_
          show G 2 120 85 18 [(3, 2), (1, a0), (1, a1), (1, a2), (1, (-1)), (0, 0), (0, 0)] [] (n, s) Q
          refine G_go rfl rfl ?_
          refine G_brF rfl rfl rfl ?_
          refine G_go rfl rfl ?_
          refine G_go rfl rfl ?_
          refine G_call rfl rfl ?_
          refine G_go rfl rfl ?_
          refine G_go rfl rfl ?_
          refine G_go rfl rfl ?_
          refine G_go rfl rfl ?_
          refine G_brF rfl rfl rfl ?_
          refine G_go rfl rfl ?_
          refine G_go rfl rfl ?_
          refine G_rf rfl rfl (by decide) (hR 2 7 119 rfl) ?_
          refine G_go rfl rfl ?_
          refine G_brF rfl rfl rfl ?_
          refine G_go rfl rfl ?_
          refine G_rf rfl rfl (by decide) (hR 2 7 119 rfl) ?_
          refine G_go rfl rfl ?_
          refine G_go rfl rfl ?_
          refine G_ir (n := 7) rfl rfl (by decide) (by decide) (by decide) ?_
          refine G_go rfl rfl ?_
          refine G_go rfl rfl ?_
          refine G_iw (n := 7) rfl rfl (by decide) (by decide) (by decide) ?_
          have hR := refs_up (a := 119) (k := 1) (x := wr ((s 119 1) + 1)) hR rfl
          refine G_go rfl rfl ?_
          refine G_ret rfl rfl ?_
          exact G_ret rfl rfl h
      · have h := h.2 c7
        refine G_go rfl rfl ?_
        refine G_go rfl rfl ?_
        refine G_rd rfl rfl (by decide) ?_
        refine G_ge rfl rfl (fun c10 => ?_) (fun c10 => ?_)
        · have h := h.1 c10
          refine G_go rfl rfl ?_
          refine G_ret rfl rfl ?_
          refine G_brT rfl rfl rfl ?_
          refine G_go rfl rfl ?_
          refine G_ret rfl rfl ?_
          refine G_go rfl rfl ?_
          refine G_go rfl rfl ?_
          refine G_go rfl rfl ?_
          refine G_call rfl rfl ?_
          refine G_go rfl rfl ?_
          refine G_go rfl rfl ?_
          refine G_ge rfl rfl (fun c11 => ?_) (fun c11 => ?_)
          · have h := h.1 c11
            refine G_go rfl rfl ?_
            refine G_go rfl rfl ?_
            refine G_le rfl rfl (fun c12 => ?_) (fun c12 => ?_)
            · have h := h.1 c12
              refine G_go rfl rfl ?_
              refine G_ret rfl rfl ?_
              refine G_call rfl rfl ?_
              refine G_go rfl rfl ?_
              refine G_brF rfl rfl rfl ?_
              refine G_go rfl rfl ?_
              refine G_go rfl rfl ?_
              refine G_ret rfl rfl ?_
              refine G_go rfl rfl ?_
              show G 2 120 85 18 [(3, 2), (1, a0), (1, a1), (1, a2), (1, (-1)), (0, 0), (0, 0)] [] (n, s) Q
              refine G_go rfl rfl ?_
              refine G_brF rfl rfl rfl ?_
              refine G_go rfl rfl ?_
              refine G_go rfl rfl ?_
              refine G_call rfl rfl ?_
              refine G_go rfl rfl ?_
              refine G_go rfl rfl ?_
              refine G_go rfl rfl ?_
              refine G_go rfl rfl ?_
              refine G_brF rfl rfl rfl ?_
              refine G_go rfl rfl ?_
              refine G_go rfl rfl ?_
              refine G_rf rfl rfl (by decide) (hR 2 7 119 rfl) ?_
              refine G_go rfl rfl ?_
              refine G_brF rfl rfl rfl ?_
              refine G_go rfl rfl ?_
              refine G_rf rfl rfl (by decide) (hR 2 7 119 rfl) ?_
              refine G_go rfl rfl ?_
              refine G_go rfl rfl ?_
              refine G_ir (n := 7) rfl rfl (by decide) (by decide) (by decide) ?_
              refine G_go rfl rfl ?_
              refine G_go rfl rfl ?_
              refine G_iw (n := 7) rfl rfl (by decide) (by decide) (by decide) ?_
              have hR := refs_up (a := 119) (k := 1) (x := wr ((s 119 1) + 1)) hR rfl
              refine G_go rfl rfl ?_
              refine G_ret rfl rfl ?_
              exact G_ret rfl rfl h
            · have h := h.2 c12
              refine G_go rfl rfl ?_
              refine G_go rfl rfl ?_
              refine G_ret rfl rfl ?_
              refine G_call rfl rfl ?_
              refine G_go rfl rfl ?_
              refine G_brF rfl rfl rfl ?_
              refine G_go rfl rfl ?_
              refine G_go rfl rfl ?_
              refine G_ret rfl rfl ?_
              refine G_go rfl rfl ?_
              show G 2 120 85 18 [(3, 2), (1, a0), (1, a1), (1, a2), (1, (-1)), (0, 0), (0, 0)] [] (n, s) Q
              refine G_go rfl rfl ?_
              refine G_brF rfl rfl rfl ?_
              refine G_go rfl rfl ?_
              refine G_go rfl rfl ?_
              refine G_call rfl rfl ?_
              refine G_go rfl rfl ?_
              refine G_go rfl rfl ?_
              refine G_go rfl rfl ?_
              refine G_go rfl rfl ?_
              refine G_brF rfl rfl rfl ?_
              refine G_go rfl rfl ?_
              refine G_go rfl rfl ?_
              refine G_rf rfl rfl (by decide) (hR 2 7 119 rfl) ?_
              refine G_go rfl rfl ?_
              refine G_brF rfl rfl rfl ?_
              refine G_go rfl rfl ?_
              refine G_rf rfl rfl (by decide) (hR 2 7 119 rfl) ?_
              refine G_go rfl rfl ?_
              refine G_go rfl rfl ?_
              refine G_ir (n := 7) rfl rfl (by decide) (by decide) (by decide) ?_
              refine G_go rfl rfl ?_
              refine G_go rfl rfl ?_
              refine G_iw (n := 7) rfl rfl (by decide) (by decide) (by decide) ?_
              have hR := refs_up (a := 119) (k := 1) (x := wr ((s 119 1) + 1)) hR rfl
              refine G_go rfl rfl ?_
              refine G_ret rfl rfl ?_
              exact G_ret rfl rfl h
          · have h := h.2 c11
            refine G_go rfl rfl ?_
            refine G_ret rfl rfl ?_
            refine G_call rfl rfl ?_
            refine G_go rfl rfl ?_
            refine G_brF rfl rfl rfl ?_
            refine G_go rfl rfl ?_
            refine G_go rfl rfl ?_
            refine G_ret rfl rfl ?_
            refine G_go rfl rfl ?_
            show G 2 120 85 18 [(3, 2), (1, a0), (1, a1), (1, a2), (1, (-1)), (0, 0), (0, 0)] [] (n, s) Q
            refine G_go rfl rfl ?_
            refine G_brF rfl rfl rfl ?_
            refine G_go rfl rfl ?_
            refine G_go rfl rfl ?_
            refine G_call rfl rfl ?_
            refine G_go rfl rfl ?_
            refine G_go rfl rfl ?_
            refine G_go rfl rfl ?_
            refine G_go rfl rfl ?_
            refine G_brF rfl rfl rfl ?_
            refine G_go rfl rfl ?_
            refine G_go rfl rfl ?_
            refine G_rf rfl rfl (by decide) (hR 2 7 119 rfl) ?_
            refine G_go rfl rfl ?_
            refine G_brF rfl rfl rfl ?_
            refine G_go rfl rfl ?_
            refine G_rf rfl rfl (by decide) (hR 2 7 119 rfl) ?_
            refine G_go rfl rfl ?_
            refine G_go rfl rfl ?_
            refine G_ir (n := 7) rfl rfl (by decide) (by decide) (by decide) ?_
            refine G_go rfl rfl ?_
            refine G_go rfl rfl ?_
            refine G_iw (n := 7) rfl rfl (by decide) (by decide) (by decide) ?_
            have hR := refs_up (a := 119) (k := 1) (x := wr ((s 119 1) + 1)) hR rfl
            refine G_go rfl rfl ?_
            refine G_ret rfl rfl ?_
            exact G_ret rfl rfl h
        · have h := h.2 c10
          refine G_go rfl rfl ?_
          refine G_go rfl rfl ?_
          refine G_ret rfl rfl ?_
          refine G_brF rfl rfl rfl ?_
          refine G_go rfl rfl ?_
          refine G_go rfl rfl ?_
          refine G_eq rfl rfl (fun c13 => ?_) (fun c13 => ?_)
          · have h := h.1 c13
            refine G_go rfl rfl ?_
            refine G_ret rfl rfl ?_
            refine G_go rfl rfl ?_
            refine G_go rfl rfl ?_
            refine G_go rfl rfl ?_
            refine G_call rfl rfl ?_
            refine G_go rfl rfl ?_
            refine G_go rfl rfl ?_
            refine G_ge rfl rfl (fun c14 => ?_) (fun c14 => ?_)
            · have h := h.1 c14
              refine G_go rfl rfl ?_
              refine G_go rfl rfl ?_
              refine G_le rfl rfl (fun c15 => ?_) (fun c15 => ?_)
              · have h := h.1 c15
                refine G_go rfl rfl ?_
                refine G_ret rfl rfl ?_
                refine G_call rfl rfl ?_
                refine G_go rfl rfl ?_
                refine G_brF rfl rfl rfl ?_
                refine G_go rfl rfl ?_
                refine G_go rfl rfl ?_
                refine G_ret rfl rfl ?_
                refine G_go rfl rfl ?_
                show G 2 120 85 18 [(3, 2), (1, a0), (1, a1), (1, a2), (1, (-1)), (0, 0), (0, 0)] [] (n, s) Q
                refine G_go rfl rfl ?_
                refine G_brF rfl rfl rfl ?_
                refine G_go rfl rfl ?_
                refine G_go rfl rfl ?_
                refine G_call rfl rfl ?_
                refine G_go rfl rfl ?_
                refine G_go rfl rfl ?_
                refine G_go rfl rfl ?_
                refine G_go rfl rfl ?_
                refine G_brF rfl rfl rfl ?_
                refine G_go rfl rfl ?_
                refine G_go rfl rfl ?_
                refine G_rf rfl rfl (by decide) (hR 2 7 119 rfl) ?_
                refine G_go rfl rfl ?_
                refine G_brF rfl rfl rfl ?_
                refine G_go rfl rfl ?_
                refine G_rf rfl rfl (by decide) (hR 2 7 119 rfl) ?_
                refine G_go rfl rfl ?_
                refine G_go rfl rfl ?_
                refine G_ir (n := 7) rfl rfl (by decide) (by decide) (by decide) ?_
                refine G_go rfl rfl ?_
                refine G_go rfl rfl ?_
                refine G_iw (n := 7) rfl rfl (by decide) (by decide) (by decide) ?_
                have hR := refs_up (a := 119) (k := 1) (x := wr ((s 119 1) + 1)) hR rfl
                refine G_go rfl rfl ?_
                refine G_ret rfl rfl ?_
                exact G_ret rfl rfl h
              · have h := h.2 c15
                refine G_go rfl rfl ?_
                refine G_go rfl rfl ?_
                refine G_ret rfl rfl ?_
                refine G_call rfl rfl ?_
                refine G_go rfl rfl ?_
                refine G_brF rfl rfl rfl ?_
                refine G_go rfl rfl ?_
                refine G_go rfl rfl ?_
                refine G_ret rfl rfl ?_
                refine G_go rfl rfl ?_
                show G 2 120 85 18 [(3, 2), (1, a0), (1, a1), (1, a2), (1, (-1)), (0, 0), (0, 0)] [] (n, s) Q
                refine G_go rfl rfl ?_
                refine G_brF rfl rfl rfl ?_
                refine G_go rfl rfl ?_
                refine G_go rfl rfl ?_
                refine G_call rfl rfl ?_
                refine G_go rfl rfl ?_
                refine G_go rfl rfl ?_
                refine G_go rfl rfl ?_
                refine G_go rfl rfl ?_
                refine G_brF rfl rfl rfl ?_
                refine G_go rfl rfl ?_
                refine G_go rfl rfl ?_
                refine G_rf rfl rfl (by decide) (hR 2 7 119 rfl) ?_
                refine G_go rfl rfl ?_
                refine G_brF rfl rfl rfl ?_
                refine G_go rfl rfl ?_
                refine G_rf rfl rfl (by decide) (hR 2 7 119 rfl) ?_
                refine G_go rfl rfl ?_
                refine G_go rfl rfl ?_
                refine G_ir (n := 7) rfl rfl (by decide) (by decide) (by decide) ?_
                refine G_go rfl rfl ?_
                refine G_go rfl rfl ?_
                refine G_iw (n := 7) rfl rfl (by decide) (by decide) (by decide) ?_
                have hR := refs_up (a := 119) (k := 1) (x := wr ((s 119 1) + 1)) hR rfl
                refine G_go rfl rfl ?_
                refine G_ret rfl rfl ?_
                exact G_ret rfl rfl h
            · have h := h.2 c14
              refine G_go rfl rfl ?_
              refine G_ret rfl rfl ?_
              refine G_call rfl rfl ?_
              refine G_go rfl rfl ?_
              refine G_brF rfl rfl rfl ?_
              refine G_go rfl rfl ?_
              refine G_go rfl rfl ?_
              refine G_ret rfl rfl ?_
              refine G_go rfl rfl ?_
              show G 2 120 85 18 [(3, 2), (1, a0), (1, a1), (1, a2), (1, (-1)), (0, 0), (0, 0)] [] (n, s) Q
              refine G_go rfl rfl ?_
              refine G_brF rfl rfl rfl ?_
              refine G_go rfl rfl ?_
              refine G_go rfl rfl ?_
              refine G_call rfl rfl ?_
              refine G_go rfl rfl ?_
              refine G_go rfl rfl ?_
              refine G_go rfl rfl ?_
              refine G_go rfl rfl ?_
              refine G_brF rfl rfl rfl ?_
              refine G_go rfl rfl ?_
              refine G_go rfl rfl ?_
              refine G_rf rfl rfl (by decide) (hR 2 7 119 rfl) ?_
              refine G_go rfl rfl ?_
              refine G_brF rfl rfl rfl ?_
              refine G_go rfl rfl ?_
              refine G_rf rfl rfl (by decide) (hR 2 7 119 rfl) ?_
              refine G_go rfl rfl ?_
              refine G_go rfl rfl ?_
              refine G_ir (n := 7) rfl rfl (by decide) (by decide) (by decide) ?_
              refine G_go rfl rfl ?_
              refine G_go rfl rfl ?_
              refine G_iw (n := 7) rfl rfl (by decide) (by decide) (by decide) ?_
              have hR := refs_up (a := 119) (k := 1) (x := wr ((s 119 1) + 1)) hR rfl
              refine G_go rfl rfl ?_
              refine G_ret rfl rfl ?_
              exact G_ret rfl rfl h
          · have h := h.2 c13
            refine G_go rfl rfl ?_
            refine G_go rfl rfl ?_
            refine G_ret rfl rfl ?_
            refine G_go rfl rfl ?_
            refine G_go rfl rfl ?_
            refine G_go rfl rfl ?_
            refine G_call rfl rfl ?_
            refine G_go rfl rfl ?_
            refine G_go rfl rfl ?_
            refine G_ge rfl rfl (fun c16 => ?_) (fun c16 => ?_)
            · have h := h.1 c16
              refine G_go rfl rfl ?_
              refine G_go rfl rfl ?_
              refine G_le rfl rfl (fun c17 => ?_) (fun c17 => ?_)
              · have h := h.1 c17
                refine G_go rfl rfl ?_
                refine G_ret rfl rfl ?_
                refine G_call rfl rfl ?_
                refine G_go rfl rfl ?_
                refine G_brT rfl rfl rfl ?_
                refine G_go rfl rfl ?_
                refine G_ret rfl rfl ?_
                refine G_go rfl rfl ?_
                show G 2 120 85 18 [(3, 2), (1, a0), (1, a1), (1, a2), (1, 0), (0, 0), (0, 0)] [] (n, s) Q
                refine G_go rfl rfl ?_
                refine G_brT rfl rfl rfl ?_
                refine G_go rfl rfl ?_
                refine G_rf rfl rfl (by decide) (hR 2 0 3 rfl) ?_
                refine G_rf rfl rfl (by decide) (hR 3 2 6 rfl) ?_
                refine G_go rfl rfl ?_
                obtain ⟨g18, h⟩ := h
                refine G_ir (n := 6) rfl rfl (by decide) (by decide) g18 ?_
                refine G_go rfl rfl ?_
                show G 2 120 85 41 [(3, 2), (1, a0), (1, a1), (1, a2), (1, 0), (1, s 6 a0.toNat), (0, 0)] [] (n, s) Q
                refine G_go rfl rfl ?_
                refine G_go rfl rfl ?_
                show G 2 120 85 44 [(3, 2), (1, a0), (1, a1), (1, a2), (1, 0), (1, s 6 a0.toNat), (1, 0)] [] (n, s) Q
                exact h
              · have h := h.2 c17
                refine G_go rfl rfl ?_
                refine G_go rfl rfl ?_
                refine G_ret rfl rfl ?_
                refine G_call rfl rfl ?_
                refine G_go rfl rfl ?_
                refine G_brT rfl rfl rfl ?_
                refine G_go rfl rfl ?_
                refine G_ret rfl rfl ?_
                refine G_go rfl rfl ?_
                show G 2 120 85 18 [(3, 2), (1, a0), (1, a1), (1, a2), (1, (-6)), (0, 0), (0, 0)] [] (n, s) Q
                refine G_go rfl rfl ?_
                refine G_brF rfl rfl rfl ?_
                refine G_go rfl rfl ?_
                refine G_go rfl rfl ?_
                refine G_call rfl rfl ?_
                refine G_go rfl rfl ?_
                refine G_go rfl rfl ?_
                refine G_go rfl rfl ?_
                refine G_go rfl rfl ?_
                refine G_brF rfl rfl rfl ?_
                refine G_go rfl rfl ?_
                refine G_go rfl rfl ?_
                refine G_rf rfl rfl (by decide) (hR 2 7 119 rfl) ?_
                refine G_go rfl rfl ?_
                refine G_brF rfl rfl rfl ?_
                refine G_go rfl rfl ?_
                refine G_rf rfl rfl (by decide) (hR 2 7 119 rfl) ?_
                refine G_go rfl rfl ?_
                refine G_go rfl rfl ?_
                refine G_ir (n := 7) rfl rfl (by decide) (by decide) (by decide) ?_
                refine G_go rfl rfl ?_
                refine G_go rfl rfl ?_
                refine G_iw (n := 7) rfl rfl (by decide) (by decide) (by decide) ?_
                have hR := refs_up (a := 119) (k := 6) (x := wr ((s 119 6) + 1)) hR rfl
                refine G_go rfl rfl ?_
                refine G_ret rfl rfl ?_
                exact G_ret rfl rfl h
            · have h := h.2 c16
              refine G_go rfl rfl ?_
              refine G_ret rfl rfl ?_
              refine G_call rfl rfl ?_
              refine G_go rfl rfl ?_
              refine G_brT rfl rfl rfl ?_
              refine G_go rfl rfl ?_
              refine G_ret rfl rfl ?_
              refine G_go rfl rfl ?_
              show G 2 120 85 18 [(3, 2), (1, a0), (1, a1), (1, a2), (1, (-4)), (0, 0), (0, 0)] [] (n, s) Q
              refine G_go rfl rfl ?_
              refine G_brF rfl rfl rfl ?_
              refine G_go rfl rfl ?_
              refine G_go rfl rfl ?_
              refine G_call rfl rfl ?_
              refine G_go rfl rfl ?_
              refine G_go rfl rfl ?_
              refine G_go rfl rfl ?_
              refine G_go rfl rfl ?_
              refine G_brF rfl rfl rfl ?_
              refine G_go rfl rfl ?_
              refine G_go rfl rfl ?_
              refine G_rf rfl rfl (by decide) (hR 2 7 119 rfl) ?_
              refine G_go rfl rfl ?_
              refine G_brF rfl rfl rfl ?_
              refine G_go rfl rfl ?_
              refine G_rf rfl rfl (by decide) (hR 2 7 119 rfl) ?_
              refine G_go rfl rfl ?_
              refine G_go rfl rfl ?_
              refine G_ir (n := 7) rfl rfl (by decide) (by decide) (by decide) ?_
              refine G_go rfl rfl ?_
              refine G_go rfl rfl ?_
              refine G_iw (n := 7) rfl rfl (by decide) (by decide) (by decide) ?_
              have hR := refs_up (a := 119) (k := 4) (x := wr ((s 119 4) + 1)) hR rfl
              refine G_go rfl rfl ?_
              refine G_ret rfl rfl ?_
              exact G_ret rfl rfl h
theorem sb_X6_give_18 (n : Nat) (s : Nat → Nat → Int) (Q : List Vl → Sto → Prop) (x1 : Int) (x2 : Int) (x3 : Int) (x4 : Int) (hR : refs s)
    (h : (x4 = 0 → (0 ≤ x1 ∧ x1 < 6) ∧ (G 2 120 85 44 [(3, 2), (1, x1), (1, x2), (1, x3), (1, x4), (1, s 6 x1.toNat), (1, 0)] [] (n, s) Q)) ∧ (x4 ≠ 0 → (wr (-x4) ≤ 0 → Q [(1, x4)] (n, s)) ∧ (0 < wr (-x4) → (7 ≤ wr (-x4) → Q [(1, x4)] (n, s)) ∧ (wr (-x4) < 7 → (0 ≤ wr (-x4) ∧ wr (-x4) < 7) ∧ (Q [(1, x4)] (n, upS s 119 ((wr (-x4)).toNat) (wr ((s 119 ((wr (-x4)).toNat)) + 1)))))))) :
    G 2 120 85 18 [(3, 2), (1, x1), (1, x2), (1, x3), (1, x4), (0, 0), (0, 0)] [] (n, s) Q := by
  refine G_go rfl rfl ?_
  refine G_eq rfl rfl (fun c1 => ?_) (fun c1 => ?_)
  · have h := h.1 c1
    refine G_go rfl rfl ?_
    refine G_rf rfl rfl (by decide) (hR 2 0 3 rfl) ?_
    refine G_rf rfl rfl (by decide) (hR 3 2 6 rfl) ?_
    refine G_go rfl rfl ?_
    obtain ⟨g2, h⟩ := h
    refine G_ir (n := 6) rfl rfl (by decide) (by decide) g2 ?_
    refine G_go rfl rfl ?_
    show G 2 120 85 41 [(3, 2), (1, x1), (1, x2), (1, x3), (1, x4), (1, s 6 x1.toNat), (0, 0)] [] (n, s) Q
    refine G_go rfl rfl ?_
    refine G_go rfl rfl ?_
    show G 2 120 85 44 [(3, 2), (1, x1), (1, x2), (1, x3), (1, x4), (1, s 6 x1.toNat), (1, 0)] [] (n, s) Q
    exact h
  · have h := h.2 c1
    refine G_go rfl rfl ?_
    refine G_go rfl rfl ?_
    refine G_call rfl rfl ?_
    refine G_go rfl rfl ?_
    refine G_go rfl rfl ?_
    refine G_go rfl rfl ?_
    refine G_go rfl rfl ?_
    refine G_le rfl rfl (fun c3 => ?_) (fun c3 => ?_)
    · have h := h.1 c3
      refine G_go rfl rfl ?_
      refine G_ret rfl rfl ?_
      exact G_ret rfl rfl h
    · have h := h.2 c3
      refine G_go rfl rfl ?_
      refine G_go rfl rfl ?_
      refine G_rf rfl rfl (by decide) (hR 2 7 119 rfl) ?_
      refine G_go rfl rfl ?_
      refine G_ge rfl rfl (fun c4 => ?_) (fun c4 => ?_)
      · have h := h.1 c4
        refine G_go rfl rfl ?_
        refine G_ret rfl rfl ?_
        exact G_ret rfl rfl h
      · have h := h.2 c4
        refine G_go rfl rfl ?_
        refine G_rf rfl rfl (by decide) (hR 2 7 119 rfl) ?_
        refine G_go rfl rfl ?_
        refine G_go rfl rfl ?_
        obtain ⟨g5, h⟩ := h
        refine G_ir (n := 7) rfl rfl (by decide) (by decide) g5 ?_
        refine G_go rfl rfl ?_
        refine G_go rfl rfl ?_
        refine G_iw (n := 7) rfl rfl (by decide) (by decide) g5 ?_
        have hR := refs_up (a := 119) (k := (wr (-x4)).toNat) (x := wr ((s 119 ((wr (-x4)).toNat)) + 1)) hR rfl
        refine G_go rfl rfl ?_
        refine G_ret rfl rfl ?_
        exact G_ret rfl rfl h
theorem sb_X6_give_41 (n : Nat) (s : Nat → Nat → Int) (Q : List Vl → Sto → Prop) (x1 : Int) (x2 : Int) (x3 : Int) (x4 : Int) (x5 : Int) (hR : refs s)
    (h : G 2 120 85 44 [(3, 2), (1, x1), (1, x2), (1, x3), (1, x4), (1, x5), (1, 0)] [] (n, s) Q) :
    G 2 120 85 41 [(3, 2), (1, x1), (1, x2), (1, x3), (1, x4), (1, x5), (0, 0)] [] (n, s) Q := by
  refine G_go rfl rfl ?_
  refine G_go rfl rfl ?_
  show G 2 120 85 44 [(3, 2), (1, x1), (1, x2), (1, x3), (1, x4), (1, x5), (1, 0)] [] (n, s) Q
  exact h
theorem sb_X6_give_44 (n : Nat) (s : Nat → Nat → Int) (Q : List Vl → Sto → Prop) (x1 : Int) (x2 : Int) (x3 : Int) (x4 : Int) (x5 : Int) (x6 : Int) (hR : refs s)
    (h : (x5 < x6 → Q [(1, (-9))] (n, s)) ∧ (x6 ≤ x5 → (0 ≤ x1 ∧ x1 < 6) ∧ ((rgP (vw 4 s) x1.toNat) ∧ ((0 ≤ wr (x5 - x6) ∧ wr (x5 - x6) ≤ 2000) ∧ ((0 ≤ vw 4 s 4 x1.toNat ∧ vw 4 s 4 x1.toNat ≤ 99) ∧ ((lsV (vw 4 s) x1.toNat (wr (x5 - x6)) < x3 → G 2 120 85 44 [(3, 2), (1, x1), (1, x2), (1, x3), (1, x4), (1, x5), (1, wr (x6 + 1))] [] (n, s) Q) ∧ (x3 ≤ lsV (vw 4 s) x1.toNat (wr (x5 - x6)) → Q [(1, x6)] (n, s)))))))) :
    G 2 120 85 44 [(3, 2), (1, x1), (1, x2), (1, x3), (1, x4), (1, x5), (1, x6)] [] (n, s) Q := by
  refine G_go rfl rfl ?_
  refine G_go rfl rfl ?_
  refine G_gt rfl rfl (fun c1 => ?_) (fun c1 => ?_)
  · have h := h.1 c1
    refine G_go rfl rfl ?_
    exact G_ret rfl rfl h
  · have h := h.2 c1
    refine G_go rfl rfl ?_
    refine G_rf rfl rfl (by decide) (hR 2 0 3 rfl) ?_
    refine G_go rfl rfl ?_
    refine G_go rfl rfl ?_
    refine G_go rfl rfl ?_
    refine G_go rfl rfl ?_
    refine G_call rfl rfl ?_
    obtain ⟨g2, h⟩ := h
    obtain ⟨g3, h⟩ := h
    obtain ⟨g4, h⟩ := h
    obtain ⟨g5, h⟩ := h
    refine c_X5_lastsHolding_3 n _ _ x1 (wr (x5 - x6)) hR g2 g3 g4 g5 ?_
    refine G_go rfl rfl ?_
    refine G_lt rfl rfl (fun c6 => ?_) (fun c6 => ?_)
    · have h := h.1 c6
      refine G_go rfl rfl ?_
      refine G_go rfl rfl ?_
      exact h
    · have h := h.2 c6
      refine G_go rfl rfl ?_
      exact G_ret rfl rfl h
theorem sb_X7_give_0 (n : Nat) (s : Nat → Nat → Int) (Q : List Vl → Sto → Prop) (a0 : Int) (a1 : Int) (a2 : Int) (hR : refs s)
    (h : (a0 < 0 → Q [(1, (-1))] (n, upS (upS s 120 10 0) 129 1 (wr ((s 129 1) + 1)))) ∧ (a0 ≥ 0 → (a0 > wr ((s 120 0) - 1) → Q [(1, (-1))] (n, upS (upS s 120 10 0) 129 1 (wr ((s 129 1) + 1)))) ∧ (a0 ≤ wr ((s 120 0) - 1) → (a1 < 0 → Q [(1, (-1))] (n, upS (upS s 120 10 0) 129 1 (wr ((s 129 1) + 1)))) ∧ (a1 ≥ 0 → (a1 > wr ((s 120 0) - 1) → Q [(1, (-1))] (n, upS (upS s 120 10 0) 129 1 (wr ((s 129 1) + 1)))) ∧ (a1 ≤ wr ((s 120 0) - 1) → (a0 = a1 → Q [(1, (-1))] (n, upS (upS s 120 10 0) 129 1 (wr ((s 129 1) + 1)))) ∧ (a0 ≠ a1 → (1 ≤ a2 → (a2 ≤ 99 → (0 ≤ a0 ∧ a0 < 6) ∧ (G 120 140 180 55 [(3, 120), (1, a0), (1, a1), (1, a2), (1, 0), (1, s 123 a0.toNat), (1, (-9)), (1, s 123 a0.toNat)] [] (n, upS s 120 10 0) Q)) ∧ (99 < a2 → Q [(1, (-6))] (n, upS (upS s 120 10 0) 129 6 (wr ((s 129 6) + 1))))) ∧ (a2 < 1 → Q [(1, (-4))] (n, upS (upS s 120 10 0) 129 4 (wr ((s 129 4) + 1)))))))))) :
    G 120 140 180 0 [(3, 120), (1, a0), (1, a1), (1, a2), (0, 0), (0, 0), (0, 0), (0, 0)] [] (n, s) Q := by
  refine G_go rfl rfl ?_
  refine G_go rfl rfl ?_
  refine G_wr rfl rfl (by decide) ?_
  have hR := refs_up (a := 120) (k := 10) (x := 0) hR rfl
  refine G_go rfl rfl ?_
  refine G_go rfl rfl ?_
  refine G_go rfl rfl ?_
  refine G_call rfl rfl ?_
  refine G_go rfl rfl ?_
  refine G_go rfl rfl ?_
  refine G_call rfl rfl ?_
  refine G_go rfl rfl ?_
  refine G_go rfl rfl ?_
  refine G_go rfl rfl ?_
  refine G_go rfl rfl ?_
  refine G_rd rfl rfl (by decide) ?_
  refine G_go rfl rfl ?_
  refine G_go rfl rfl ?_
  refine G_go rfl rfl ?_
  refine G_call rfl rfl ?_
  refine G_go rfl rfl ?_
  refine G_go rfl rfl ?_
  refine G_go rfl rfl ?_
  refine G_lt rfl rfl (fun c1 => ?_) (fun c1 => ?_)
  · have c1 := xl_lt c1
    have h := h.1 c1
    refine G_go rfl rfl ?_
    refine G_ret rfl rfl ?_
    refine G_ret rfl rfl ?_
    refine G_brT rfl rfl rfl ?_
    refine G_go rfl rfl ?_
    refine G_ret rfl rfl ?_
    refine G_brT rfl rfl rfl ?_
    refine G_go rfl rfl ?_
    refine G_go rfl rfl ?_
    show G 120 140 180 27 [(3, 120), (1, a0), (1, a1), (1, a2), (1, (-1)), (0, 0), (0, 0), (0, 0)] [] (n, upS s 120 10 0) Q
    refine G_go rfl rfl ?_
    refine G_brF rfl rfl rfl ?_
    refine G_go rfl rfl ?_
    refine G_go rfl rfl ?_
    refine G_call rfl rfl ?_
    refine G_go rfl rfl ?_
    refine G_rf rfl rfl (by decide) (hR 120 11 129 rfl) ?_
    refine G_go rfl rfl ?_
    refine G_go rfl rfl ?_
    refine G_go rfl rfl ?_
    refine G_ir (n := 7) rfl rfl (by decide) (by decide) (by decide) ?_
    refine G_go rfl rfl ?_
    refine G_go rfl rfl ?_
    refine G_iw (n := 7) rfl rfl (by decide) (by decide) (by decide) ?_
    have hR := refs_up (a := 129) (k := 1) (x := wr ((s 129 1) + 1)) hR rfl
    refine G_go rfl rfl ?_
    refine G_ret rfl rfl ?_
    exact G_ret rfl rfl h
  · have c1 := xl_ge c1
    have h := h.2 c1
    refine G_go rfl rfl ?_
    refine G_go rfl rfl ?_
    refine G_go rfl rfl ?_
    refine G_gt rfl rfl (fun c2 => ?_) (fun c2 => ?_)
    · have c2 := xl_gt c2
      have h := h.1 c2
      refine G_go rfl rfl ?_
      refine G_ret rfl rfl ?_
      refine G_ret rfl rfl ?_
      refine G_brT rfl rfl rfl ?_
      refine G_go rfl rfl ?_
      refine G_ret rfl rfl ?_
      refine G_brT rfl rfl rfl ?_
      refine G_go rfl rfl ?_
      refine G_go rfl rfl ?_
      show G 120 140 180 27 [(3, 120), (1, a0), (1, a1), (1, a2), (1, (-1)), (0, 0), (0, 0), (0, 0)] [] (n, upS s 120 10 0) Q
      refine G_go rfl rfl ?_
      refine G_brF rfl rfl rfl ?_
      refine G_go rfl rfl ?_
      refine G_go rfl rfl ?_
      refine G_call rfl rfl ?_
      refine G_go rfl rfl ?_
      refine G_rf rfl rfl (by decide) (hR 120 11 129 rfl) ?_
      refine G_go rfl rfl ?_
      refine G_go rfl rfl ?_
      refine G_go rfl rfl ?_
      refine G_ir (n := 7) rfl rfl (by decide) (by decide) (by decide) ?_
      refine G_go rfl rfl ?_
      refine G_go rfl rfl ?_
      refine G_iw (n := 7) rfl rfl (by decide) (by decide) (by decide) ?_
      have hR := refs_up (a := 129) (k := 1) (x := wr ((s 129 1) + 1)) hR rfl
      refine G_go rfl rfl ?_
      refine G_ret rfl rfl ?_
      exact G_ret rfl rfl h
    · have c2 := xl_le c2
      have h := h.2 c2
      refine G_go rfl rfl ?_
      refine G_go rfl rfl ?_
      refine G_ret rfl rfl ?_
      refine G_ret rfl rfl ?_
      refine G_brF rfl rfl rfl ?_
      refine G_go rfl rfl ?_
      refine G_go rfl rfl ?_
      refine G_call rfl rfl ?_
      refine G_go rfl rfl ?_
      refine G_go rfl rfl ?_
      refine G_go rfl rfl ?_
      refine G_go rfl rfl ?_
      refine G_rd rfl rfl (by decide) ?_
      refine G_go rfl rfl ?_
      refine G_go rfl rfl ?_
      refine G_go rfl rfl ?_
      refine G_call rfl rfl ?_
      refine G_go rfl rfl ?_
      refine G_go rfl rfl ?_
      refine G_go rfl rfl ?_
      refine G_lt rfl rfl (fun c3 => ?_) (fun c3 => ?_)
      · have c3 := xl_lt c3
        have h := h.1 c3
        refine G_go rfl rfl ?_
        refine G_ret rfl rfl ?_
        refine G_ret rfl rfl ?_
        refine G_brT rfl rfl rfl ?_
        refine G_go rfl rfl ?_
        refine G_ret rfl rfl ?_
        refine G_brT rfl rfl rfl ?_
        refine G_go rfl rfl ?_
        refine G_go rfl rfl ?_
        show G 120 140 180 27 [(3, 120), (1, a0), (1, a1), (1, a2), (1, (-1)), (0, 0), (0, 0), (0, 0)] [] (n, upS s 120 10 0) Q
        refine G_go rfl rfl ?_
        refine G_brF rfl rfl rfl ?_
        refine G_go rfl rfl ?_
        refine G_go rfl rfl ?_
        refine G_call rfl rfl ?_
        refine G_go rfl rfl ?_
        refine G_rf rfl rfl (by decide) (hR 120 11 129 rfl) ?_
        refine G_go rfl rfl ?_
        refine G_go rfl rfl ?_
        refine G_go rfl rfl ?_
        refine G_ir (n := 7) rfl rfl (by decide) (by decide) (by decide) ?_
        refine G_go rfl rfl ?_
        refine G_go rfl rfl ?_
        refine G_iw (n := 7) rfl rfl (by decide) (by decide) (by decide) ?_
        have hR := refs_up (a := 129) (k := 1) (x := wr ((s 129 1) + 1)) hR rfl
        refine G_go rfl rfl ?_
        refine G_ret rfl rfl ?_
        exact G_ret rfl rfl h
      · have c3 := xl_ge c3
        have h := h.2 c3
        refine G_go rfl rfl ?_
        refine G_go rfl rfl ?_
        refine G_go rfl rfl ?_
        refine G_gt rfl rfl (fun c4 => ?_) (fun c4 => ?_)
        · have c4 := xl_gt c4
          have h := h.1 c4
          refine G_go rfl rfl ?_
          refine G_ret rfl rfl ?_
          refine G_ret rfl rfl ?_
          refine G_brT rfl rfl rfl ?_
          refine G_go rfl rfl ?_
          refine G_ret rfl rfl ?_
          refine G_brT rfl rfl rfl ?_
          refine G_go rfl rfl ?_
          refine G_go rfl rfl ?_
          show G 120 140 180 27 [(3, 120), (1, a0), (1, a1), (1, a2), (1, (-1)), (0, 0), (0, 0), (0, 0)] [] (n, upS s 120 10 0) Q
          refine G_go rfl rfl ?_
          refine G_brF rfl rfl rfl ?_
          refine G_go rfl rfl ?_
          refine G_go rfl rfl ?_
          refine G_call rfl rfl ?_
          refine G_go rfl rfl ?_
          refine G_rf rfl rfl (by decide) (hR 120 11 129 rfl) ?_
          refine G_go rfl rfl ?_
          refine G_go rfl rfl ?_
          refine G_go rfl rfl ?_
          refine G_ir (n := 7) rfl rfl (by decide) (by decide) (by decide) ?_
          refine G_go rfl rfl ?_
          refine G_go rfl rfl ?_
          refine G_iw (n := 7) rfl rfl (by decide) (by decide) (by decide) ?_
          have hR := refs_up (a := 129) (k := 1) (x := wr ((s 129 1) + 1)) hR rfl
          refine G_go rfl rfl ?_
          refine G_ret rfl rfl ?_
          exact G_ret rfl rfl h
        · have c4 := xl_le c4
          have h := h.2 c4
          refine G_go rfl rfl ?_
          refine G_go rfl rfl ?_
          refine G_ret rfl rfl ?_
          refine G_ret rfl rfl ?_
          refine G_brF rfl rfl rfl ?_
          refine G_go rfl rfl ?_
          refine G_go rfl rfl ?_
          refine G_eq rfl rfl (fun c5 => ?_) (fun c5 => ?_)
          · have h := h.1 c5
            refine G_go rfl rfl ?_
            refine G_ret rfl rfl ?_
            refine G_brT rfl rfl rfl ?_
            refine G_go rfl rfl ?_
            refine G_go rfl rfl ?_
            show G 120 140 180 27 [(3, 120), (1, a0), (1, a1), (1, a2), (1, (-1)), (0, 0), (0, 0), (0, 0)] [] (n, upS s 120 10 0) Q
            refine G_go rfl rfl ?_
            refine G_brF rfl rfl rfl ?_
            refine G_go rfl rfl ?_
            refine G_go rfl rfl ?_
            refine G_call rfl rfl ?_
            refine G_go rfl rfl ?_
            refine G_rf rfl rfl (by decide) (hR 120 11 129 rfl) ?_
            refine G_go rfl rfl ?_
            refine G_go rfl rfl ?_
            refine G_go rfl rfl ?_
            refine G_ir (n := 7) rfl rfl (by decide) (by decide) (by decide) ?_
            refine G_go rfl rfl ?_
            refine G_go rfl rfl ?_
            refine G_iw (n := 7) rfl rfl (by decide) (by decide) (by decide) ?_
            have hR := refs_up (a := 129) (k := 1) (x := wr ((s 129 1) + 1)) hR rfl
            refine G_go rfl rfl ?_
            refine G_ret rfl rfl ?_
            exact G_ret rfl rfl h
          · have h := h.2 c5
            refine G_go rfl rfl ?_
            refine G_go rfl rfl ?_
            refine G_ret rfl rfl ?_
            refine G_brF rfl rfl rfl ?_
            refine G_go rfl rfl ?_
            refine G_go rfl rfl ?_
            refine G_go rfl rfl ?_
            refine G_call rfl rfl ?_
            refine G_go rfl rfl ?_
            refine G_go rfl rfl ?_
            refine G_ge rfl rfl (fun c6 => ?_) (fun c6 => ?_)
            · have h := h.1 c6
              refine G_go rfl rfl ?_
              refine G_go rfl rfl ?_
              refine G_le rfl rfl (fun c7 => ?_) (fun c7 => ?_)
              · have h := h.1 c7
                refine G_go rfl rfl ?_
                refine G_ret rfl rfl ?_
                refine G_go rfl rfl ?_
                refine G_go rfl rfl ?_
                show G 120 140 180 27 [(3, 120), (1, a0), (1, a1), (1, a2), (1, 0), (0, 0), (0, 0), (0, 0)] [] (n, upS s 120 10 0) Q
                refine G_go rfl rfl ?_
                refine G_brT rfl rfl rfl ?_
                refine G_go rfl rfl ?_
                refine G_rf rfl rfl (by decide) (hR 120 3 123 rfl) ?_
                refine G_go rfl rfl ?_
                obtain ⟨g8, h⟩ := h
                refine G_ir (n := 6) rfl rfl (by decide) (by decide) g8 ?_
                refine G_go rfl rfl ?_
                show G 120 140 180 47 [(3, 120), (1, a0), (1, a1), (1, a2), (1, 0), (1, s 123 a0.toNat), (0, 0), (0, 0)] [] (n, upS s 120 10 0) Q
                refine G_go rfl rfl ?_
                refine G_go rfl rfl ?_
                show G 120 140 180 51 [(3, 120), (1, a0), (1, a1), (1, a2), (1, 0), (1, s 123 a0.toNat), (1, (-9)), (0, 0)] [] (n, upS s 120 10 0) Q
                refine G_go rfl rfl ?_
                refine G_go rfl rfl ?_
                show G 120 140 180 55 [(3, 120), (1, a0), (1, a1), (1, a2), (1, 0), (1, s 123 a0.toNat), (1, (-9)), (1, s 123 a0.toNat)] [] (n, upS s 120 10 0) Q
                exact h
              · have h := h.2 c7
                refine G_go rfl rfl ?_
                refine G_go rfl rfl ?_
                refine G_ret rfl rfl ?_
                refine G_go rfl rfl ?_
                refine G_go rfl rfl ?_
                show G 120 140 180 27 [(3, 120), (1, a0), (1, a1), (1, a2), (1, (-6)), (0, 0), (0, 0), (0, 0)] [] (n, upS s 120 10 0) Q
                refine G_go rfl rfl ?_
                refine G_brF rfl rfl rfl ?_
                refine G_go rfl rfl ?_
                refine G_go rfl rfl ?_
                refine G_call rfl rfl ?_
                refine G_go rfl rfl ?_
                refine G_rf rfl rfl (by decide) (hR 120 11 129 rfl) ?_
                refine G_go rfl rfl ?_
                refine G_go rfl rfl ?_
                refine G_go rfl rfl ?_
                refine G_ir (n := 7) rfl rfl (by decide) (by decide) (by decide) ?_
                refine G_go rfl rfl ?_
                refine G_go rfl rfl ?_
                refine G_iw (n := 7) rfl rfl (by decide) (by decide) (by decide) ?_
                have hR := refs_up (a := 129) (k := 6) (x := wr ((s 129 6) + 1)) hR rfl
                refine G_go rfl rfl ?_
                refine G_ret rfl rfl ?_
                exact G_ret rfl rfl h
            · have h := h.2 c6
              refine G_go rfl rfl ?_
              refine G_go rfl rfl ?_
              refine G_ret rfl rfl ?_
              refine G_go rfl rfl ?_
              refine G_go rfl rfl ?_
              show G 120 140 180 27 [(3, 120), (1, a0), (1, a1), (1, a2), (1, (-4)), (0, 0), (0, 0), (0, 0)] [] (n, upS s 120 10 0) Q
              refine G_go rfl rfl ?_
              refine G_brF rfl rfl rfl ?_
              refine G_go rfl rfl ?_
              refine G_go rfl rfl ?_
              refine G_call rfl rfl ?_
              refine G_go rfl rfl ?_
              refine G_rf rfl rfl (by decide) (hR 120 11 129 rfl) ?_
              refine G_go rfl rfl ?_
              refine G_go rfl rfl ?_
              refine G_go rfl rfl ?_
              refine G_ir (n := 7) rfl rfl (by decide) (by decide) (by decide) ?_
              refine G_go rfl rfl ?_
              refine G_go rfl rfl ?_
              refine G_iw (n := 7) rfl rfl (by decide) (by decide) (by decide) ?_
              have hR := refs_up (a := 129) (k := 4) (x := wr ((s 129 4) + 1)) hR rfl
              refine G_go rfl rfl ?_
              refine G_ret rfl rfl ?_
              exact G_ret rfl rfl h
theorem sb_X7_give_27 (n : Nat) (s : Nat → Nat → Int) (Q : List Vl → Sto → Prop) (x1 : Int) (x2 : Int) (x3 : Int) (x4 : Int) (hR : refs s)
    (h : (0 ≤ x4 → (0 ≤ x1 ∧ x1 < 6) ∧ (G 120 140 180 55 [(3, 120), (1, x1), (1, x2), (1, x3), (1, x4), (1, s 123 x1.toNat), (1, (-9)), (1, s 123 x1.toNat)] [] (n, s) Q)) ∧ (x4 < 0 → (0 ≤ wr (-x4) ∧ wr (-x4) < 7) ∧ (Q [(1, x4)] (n, upS s 129 ((wr (-x4)).toNat) (wr ((s 129 ((wr (-x4)).toNat)) + 1)))))) :
    G 120 140 180 27 [(3, 120), (1, x1), (1, x2), (1, x3), (1, x4), (0, 0), (0, 0), (0, 0)] [] (n, s) Q := by
  refine G_go rfl rfl ?_
  refine G_ge rfl rfl (fun c1 => ?_) (fun c1 => ?_)
  · have h := h.1 c1
    refine G_go rfl rfl ?_
    refine G_rf rfl rfl (by decide) (hR 120 3 123 rfl) ?_
    refine G_go rfl rfl ?_
    obtain ⟨g2, h⟩ := h
    refine G_ir (n := 6) rfl rfl (by decide) (by decide) g2 ?_
    refine G_go rfl rfl ?_
    show G 120 140 180 47 [(3, 120), (1, x1), (1, x2), (1, x3), (1, x4), (1, s 123 x1.toNat), (0, 0), (0, 0)] [] (n, s) Q
    refine G_go rfl rfl ?_
    refine G_go rfl rfl ?_
    show G 120 140 180 51 [(3, 120), (1, x1), (1, x2), (1, x3), (1, x4), (1, s 123 x1.toNat), (1, (-9)), (0, 0)] [] (n, s) Q
    refine G_go rfl rfl ?_
    refine G_go rfl rfl ?_
    show G 120 140 180 55 [(3, 120), (1, x1), (1, x2), (1, x3), (1, x4), (1, s 123 x1.toNat), (1, (-9)), (1, s 123 x1.toNat)] [] (n, s) Q
    exact h
  · have h := h.2 c1
    refine G_go rfl rfl ?_
    refine G_go rfl rfl ?_
    refine G_call rfl rfl ?_
    refine G_go rfl rfl ?_
    refine G_rf rfl rfl (by decide) (hR 120 11 129 rfl) ?_
    refine G_go rfl rfl ?_
    refine G_go rfl rfl ?_
    refine G_go rfl rfl ?_
    obtain ⟨g3, h⟩ := h
    refine G_ir (n := 7) rfl rfl (by decide) (by decide) g3 ?_
    refine G_go rfl rfl ?_
    refine G_go rfl rfl ?_
    refine G_iw (n := 7) rfl rfl (by decide) (by decide) g3 ?_
    have hR := refs_up (a := 129) (k := (wr (-x4)).toNat) (x := wr ((s 129 ((wr (-x4)).toNat)) + 1)) hR rfl
    refine G_go rfl rfl ?_
    refine G_ret rfl rfl ?_
    exact G_ret rfl rfl h
theorem sb_X7_give_47 (n : Nat) (s : Nat → Nat → Int) (Q : List Vl → Sto → Prop) (x1 : Int) (x2 : Int) (x3 : Int) (x4 : Int) (x5 : Int) (hR : refs s)
    (h : G 120 140 180 55 [(3, 120), (1, x1), (1, x2), (1, x3), (1, x4), (1, x5), (1, (-9)), (1, x5)] [] (n, s) Q) :
    G 120 140 180 47 [(3, 120), (1, x1), (1, x2), (1, x3), (1, x4), (1, x5), (0, 0), (0, 0)] [] (n, s) Q := by
  refine G_go rfl rfl ?_
  refine G_go rfl rfl ?_
  show G 120 140 180 51 [(3, 120), (1, x1), (1, x2), (1, x3), (1, x4), (1, x5), (1, (-9)), (0, 0)] [] (n, s) Q
  refine G_go rfl rfl ?_
  refine G_go rfl rfl ?_
  show G 120 140 180 55 [(3, 120), (1, x1), (1, x2), (1, x3), (1, x4), (1, x5), (1, (-9)), (1, x5)] [] (n, s) Q
  exact h
theorem sb_X7_give_51 (n : Nat) (s : Nat → Nat → Int) (Q : List Vl → Sto → Prop) (x1 : Int) (x2 : Int) (x3 : Int) (x4 : Int) (x5 : Int) (x6 : Int) (hR : refs s)
    (h : G 120 140 180 55 [(3, 120), (1, x1), (1, x2), (1, x3), (1, x4), (1, x5), (1, x6), (1, x5)] [] (n, s) Q) :
    G 120 140 180 51 [(3, 120), (1, x1), (1, x2), (1, x3), (1, x4), (1, x5), (1, x6), (0, 0)] [] (n, s) Q := by
  refine G_go rfl rfl ?_
  refine G_go rfl rfl ?_
  show G 120 140 180 55 [(3, 120), (1, x1), (1, x2), (1, x3), (1, x4), (1, x5), (1, x6), (1, x5)] [] (n, s) Q
  exact h
theorem sb_X7_give_55 (n : Nat) (s : Nat → Nat → Int) (Q : List Vl → Sto → Prop) (x1 : Int) (x2 : Int) (x3 : Int) (x4 : Int) (x5 : Int) (x6 : Int) (x7 : Int) (hR : refs s)
    (h : (x7 < 0 → (0 ≤ x1 ∧ x1 < 6) ∧ (Q [(1, x6)] (n, upS s 123 x1.toNat x5))) ∧ (0 ≤ x7 → (0 ≤ x1 ∧ x1 < 6) ∧ ((rgP (vw 121 (upS s 123 x1.toNat (wr (x5 - x7)))) x1.toNat) ∧ ((0 ≤ vw 121 (upS s 123 x1.toNat (wr (x5 - x7))) 2 x1.toNat ∧ vw 121 (upS s 123 x1.toNat (wr (x5 - x7))) 2 x1.toNat ≤ 2000) ∧ ((0 ≤ vw 121 (upS s 123 x1.toNat (wr (x5 - x7))) 4 x1.toNat ∧ vw 121 (upS s 123 x1.toNat (wr (x5 - x7))) 4 x1.toNat ≤ 99) ∧ ((lsW (vw 121 (upS s 123 x1.toNat (wr (x5 - x7)))) x1.toNat < x3 → G 120 140 180 55 [(3, 120), (1, x1), (1, x2), (1, x3), (1, x4), (1, x5), (1, x6), (1, wr (x7 + (-1)))] [] (n, upS s 123 x1.toNat (wr (x5 - x7))) Q) ∧ (x3 ≤ lsW (vw 121 (upS s 123 x1.toNat (wr (x5 - x7)))) x1.toNat → G 120 140 180 55 [(3, 120), (1, x1), (1, x2), (1, x3), (1, x4), (1, x5), (1, x7), (1, wr (x7 + (-1)))] [] (n, upS s 123 x1.toNat (wr (x5 - x7))) Q))))))) :
    G 120 140 180 55 [(3, 120), (1, x1), (1, x2), (1, x3), (1, x4), (1, x5), (1, x6), (1, x7)] [] (n, s) Q := by
  refine G_go rfl rfl ?_
  refine G_lt rfl rfl (fun c1 => ?_) (fun c1 => ?_)
  · have h := h.1 c1
    refine G_go rfl rfl ?_
    refine G_rf rfl rfl (by decide) (hR 120 3 123 rfl) ?_
    refine G_go rfl rfl ?_
    refine G_go rfl rfl ?_
    obtain ⟨g2, h⟩ := h
    refine G_iw (n := 6) rfl rfl (by decide) (by decide) g2 ?_
    have hR := refs_up (a := 123) (k := x1.toNat) (x := x5) hR rfl
    refine G_go rfl rfl ?_
    exact G_ret rfl rfl h
  · have h := h.2 c1
    refine G_go rfl rfl ?_
    refine G_rf rfl rfl (by decide) (hR 120 3 123 rfl) ?_
    refine G_go rfl rfl ?_
    refine G_go rfl rfl ?_
    refine G_go rfl rfl ?_
    refine G_go rfl rfl ?_
    obtain ⟨g3, h⟩ := h
    refine G_iw (n := 6) rfl rfl (by decide) (by decide) g3 ?_
    have hR := refs_up (a := 123) (k := x1.toNat) (x := wr (x5 - x7)) hR rfl
    refine G_go rfl rfl ?_
    refine G_go rfl rfl ?_
    refine G_call rfl rfl ?_
    obtain ⟨g4, h⟩ := h
    obtain ⟨g5, h⟩ := h
    obtain ⟨g6, h⟩ := h
    refine c_X7_lastsOf n _ _ x1 hR g3 g4 g5 g6 ?_
    refine G_go rfl rfl ?_
    refine G_lt rfl rfl (fun c7 => ?_) (fun c7 => ?_)
    · have h := h.1 c7
      refine G_go rfl rfl ?_
      refine G_go rfl rfl ?_
      show G 120 140 180 89 [(3, 120), (1, x1), (1, x2), (1, x3), (1, x4), (1, x5), (1, x6), (1, x7)] [] (n, upS s 123 x1.toNat (wr (x5 - x7))) Q
      refine G_go rfl rfl ?_
      refine G_go rfl rfl ?_
      exact h
    · have h := h.2 c7
      refine G_go rfl rfl ?_
      refine G_go rfl rfl ?_
      refine G_go rfl rfl ?_
      show G 120 140 180 89 [(3, 120), (1, x1), (1, x2), (1, x3), (1, x4), (1, x5), (1, x7), (1, x7)] [] (n, upS s 123 x1.toNat (wr (x5 - x7))) Q
      refine G_go rfl rfl ?_
      refine G_go rfl rfl ?_
      exact h
theorem sb_X7_give_89 (n : Nat) (s : Nat → Nat → Int) (Q : List Vl → Sto → Prop) (x1 : Int) (x2 : Int) (x3 : Int) (x4 : Int) (x5 : Int) (x6 : Int) (x7 : Int) (hR : refs s)
    (h : G 120 140 180 55 [(3, 120), (1, x1), (1, x2), (1, x3), (1, x4), (1, x5), (1, x6), (1, wr (x7 + (-1)))] [] (n, s) Q) :
    G 120 140 180 89 [(3, 120), (1, x1), (1, x2), (1, x3), (1, x4), (1, x5), (1, x6), (1, x7)] [] (n, s) Q := by
  refine G_go rfl rfl ?_
  refine G_go rfl rfl ?_
  exact h
/-! GIVE -/
def ff (P : Nat → Bool) : Nat → Nat → Int
  | 0, _ => -9
  | d + 1, k => if P k = true then (k : Int) else ff P d (k + 1)
def gvP (t : Nat → Nat → Int) (p : Nat) (v : Int) (k : Nat) : Bool := decide (v ≤ lsV (vw 121 t) p (t 123 p - (k : Int)))
def gvN (t : Nat → Nat → Int) (p : Nat) : Nat := (t 123 p).toNat + 1
theorem cl_give (n : Nat) (s t : Nat → Nat → Int) (h : REL s t) (p : Nat) (hp : (p : Int) < t 120 0) (a1 v x4 : Int) (Q : List Vl → Sto → Prop) : ∀ d k, k + d = gvN t p → Q [(1, ff (gvP t p v) d k)] (n, s) → G 2 120 85 44 [(3, 2), (1, (p : Int)), (1, a1), (1, v), (1, x4), (1, s 6 p), (1, (k : Int))] [] (n, s) Q := by
  obtain ⟨hn1, hn2, hn3, hn4⟩ := h.np
  have ht := h.t p hp
  have hs := h.s p hp
  have hN : gvN t p = (t 123 p).toNat + 1 := rfl
  obtain ⟨g1, g2, g3, g4, g5, g6⟩ := h.rg p hp
  intro d
  induction d with
  | zero =>
    intro k hk hq
    exact sb_X6_give_44 n s Q _ _ _ _ _ _ h.1 ⟨fun _ => hq, fun e => by omega⟩
  | succ d ih =>
    intro k hk hq
    have ih := ih (k + 1) (by omega)
    rw [← wr_s (show k < 1000 by omega) (by omega)] at ih
    refine sb_X6_give_44 n s Q _ _ _ _ _ _ h.1 ⟨fun e => by omega, fun _ => ?_⟩
    rw [Int.toNat_natCast, wr_id (x := s 6 p - (k : Int)) (by omega) (by omega), h.ls p hp, hs.2.2.1]
    refine ⟨by omega, g1, by omega, g5, fun c => ?_, fun c => ?_⟩
    · have c : ¬ gvP t p v k = true := fun e => absurd (of_decide_eq_true e) (by omega)
      rw [show ff (gvP t p v) (d + 1) k = _ from if_neg c] at hq
      rw [hs.2.2.1] at ih
      exact ih hq
    · have c : gvP t p v k = true := decide_eq_true c
      rw [show ff (gvP t p v) (d + 1) k = _ from if_pos c] at hq
      exact hq
def gvF (t : Nat → Nat → Int) (p : Nat) (v : Int) (k : Nat) (b : Int) : Int := if gvP t p v ((t 123 p).toNat - k) = true then (((t 123 p).toNat - k : Nat) : Int) else b
theorem gvF_ff (t : Nat → Nat → Int) (p : Nat) (v : Int) : ∀ m, m ≤ gvN t p → itr (gvF t p v) (-9) m = ff (gvP t p v) m (gvN t p - m) := by
  have hN : gvN t p = (t 123 p).toNat + 1 := rfl
  intro m
  induction m with
  | zero => intro _; rfl
  | succ m ih =>
    intro hm
    show gvF t p v m (itr (gvF t p v) (-9) m) = if gvP t p v (gvN t p - (m + 1)) = true then ((gvN t p - (m + 1) : Nat) : Int) else ff (gvP t p v) m (gvN t p - (m + 1) + 1)
    rw [ih (by omega), show gvN t p - (m + 1) = (t 123 p).toNat - m by omega, show (t 123 p).toNat - m + 1 = gvN t p - m by omega]
    rfl
theorem lsV_c2 {p : Nat} {s : Nat → Nat → Int} {x : Int} : lsW (vw 121 (upS s 123 p x)) p = lsV (vw 121 s) p x := lsV_c rfl
theorem lsV_c3 {p : Nat} {s : Nat → Nat → Int} {x y : Int} : lsV (vw 121 (upS s 123 p x)) p y = lsV (vw 121 s) p y := by
  unfold lsV bnV vw upS
  simp
theorem upS_again {t : Nat → Nat → Int} {a p : Nat} {x y : Int} : upS (upS t a p x) a p y = upS t a p y := by
  funext i j
  simp only [upS]
  by_cases c1 : i = a <;> by_cases c3 : j = p <;> simp_all
theorem rl_give (n : Nat) (s t : Nat → Nat → Int) (h : REL s t) (p : Nat) (hp : (p : Int) < t 120 0) (a1 v : Int) (Q : List Vl → Sto → Prop) (hq : Q [(1, ff (gvP t p v) (gvN t p) 0)] (n, t)) : G 120 140 180 55 [(3, 120), (1, (p : Int)), (1, a1), (1, v), (1, 0), (1, t 123 p), (1, (-9)), (1, t 123 p)] [] (n, t) Q := by
  obtain ⟨hn1, hn2, hn3, hn4⟩ := h.np
  have ht := h.t p hp
  have hN : gvN t p = (t 123 p).toNat + 1 := rfl
  obtain ⟨g1, g2, g3, g4, g5, g6⟩ := h.rg p hp
  have et : upS t 123 p (t 123 p) = t := by
    funext i j
    simp only [upS]
    by_cases c1 : i = 123 <;> by_cases c3 : j = p <;> simp_all
  have hx : t 123 p = t 123 p - ((0 : Nat) : Int) := by omega
  have loop : ∀ t1, refs t1 → upS t1 123 p (t 123 p) = t → G 120 140 180 55 [(3, 120), (1, (p : Int)), (1, a1), (1, v), (1, 0), (1, t 123 p), (1, (-9)), (1, t 123 p - ((0 : Nat) : Int))] [] (n, t1) Q := by
    refine G_up (gvN t p) (fun k b => ∀ t1, refs t1 → upS t1 123 p (t 123 p) = t → G 120 140 180 55 [(3, 120), (1, (p : Int)), (1, a1), (1, v), (1, 0), (1, t 123 p), (1, b), (1, t 123 p - (k : Int))] [] (n, t1) Q) (gvF t p v) (fun _ _ => True) (-9) trivial (fun _ _ _ _ => trivial) (fun k b hk _ hg t1 hR he => ?_) (fun _ t1 hR he => ?_)
    · refine sb_X7_give_55 n t1 Q _ _ _ _ _ _ _ hR ⟨fun e => by omega, fun _ => ?_⟩
      have ek : t 123 p - (k : Int) = (((t 123 p).toNat - k : Nat) : Int) := by omega
      rw [Int.toNat_natCast, wr_id (x := t 123 p - (t 123 p - (k : Int))) (by omega) (by omega), wr_id (x := t 123 p - (k : Int) + -1) (by omega) (by omega), show t 123 p - (t 123 p - (k : Int)) = (k : Int) by omega, show t 123 p - (k : Int) + -1 = t 123 p - ((k + 1 : Nat) : Int) by omega]
      have hR2 : refs (upS t1 123 p (k : Int)) := refs_up hR rfl
      have he2 : upS (upS t1 123 p (k : Int)) 123 p (t 123 p) = t := by rw [upS_again]; exact he
      have ev : lsW (vw 121 (upS t1 123 p (k : Int))) p = lsV (vw 121 t) p (t 123 p - (((t 123 p).toNat - k : Nat) : Int)) := by
        rw [lsV_c2, ← he, lsV_c3, he]
        congr 1
        omega
      have e1 : t1 122 p = t 122 p := by rw [← he]; simp [upS]
      have e3 : t1 124 p = t 124 p := by rw [← he]; simp [upS]
      have e4 : t1 125 p = t 125 p := by rw [← he]; simp [upS]
      rw [ev]
      refine ⟨by omega, ⟨?_, ?_⟩, ?_, ?_, fun c => ?_, fun c => ?_⟩
      · show 0 ≤ upS t1 123 p (k : Int) 122 p ∧ upS t1 123 p (k : Int) 122 p ≤ 9
        simp [upS]
        omega
      · show 0 ≤ upS t1 123 p (k : Int) 124 p ∧ upS t1 123 p (k : Int) 124 p ≤ 200
        simp [upS]
        omega
      · show 0 ≤ upS t1 123 p (k : Int) 123 p ∧ upS t1 123 p (k : Int) 123 p ≤ 2000
        simp [upS]
        omega
      · show 0 ≤ upS t1 123 p (k : Int) 125 p ∧ upS t1 123 p (k : Int) 125 p ≤ 99
        simp [upS]
        omega
      · have c : ¬ gvP t p v ((t 123 p).toNat - k) = true := fun e => absurd (of_decide_eq_true e) (by omega)
        rw [show gvF t p v k b = b from if_neg c] at hg
        exact hg _ hR2 he2
      · have c : gvP t p v ((t 123 p).toNat - k) = true := decide_eq_true c
        rw [show gvF t p v k b = (((t 123 p).toNat - k : Nat) : Int) from if_pos c, ← ek] at hg
        exact hg _ hR2 he2
    · refine sb_X7_give_55 n t1 Q _ _ _ _ _ _ _ hR ⟨fun _ => ?_, fun e => by omega⟩
      rw [Int.toNat_natCast, he, gvF_ff t p v _ (Nat.le_refl _), Nat.sub_self]
      exact ⟨by omega, hq⟩
  have := loop t h.2.1 et
  rw [← hx] at this
  exact this
theorem op_give (n : Nat) (s t : Nat → Nat → Int) (h : REL s t) (a0 a1 a2 : Int) : G 2 120 85 0 [(3, 2), (1, a0), (1, a1), (1, a2), (0, 0), (0, 0), (0, 0)] [] (n, s) (fun r s1 => G 120 140 180 0 [(3, 120), (1, a0), (1, a1), (1, a2), (0, 0), (0, 0), (0, 0), (0, 0)] [] (n, t) (Post n r s1)) := by
  obtain ⟨hn1, hn2, hn3, hn4⟩ := h.np
  have hw : wr (t 120 0 - 1) = t 120 0 - 1 := wr_id (by omega) (by omega)
  have h1 : ∀ z : Int, 0 ≤ z → z < t 120 0 → ∃ p : Nat, z = p ∧ (p : Int) < t 120 0 := fun z h1 h2 => ⟨z.toNat, by omega, by omega⟩
  refine sb_X6_give_0 n s _ a0 a1 a2 h.1 ?_
  repeat' first | with_reducible refine And.intro ?_ ?_ | intro _
  all_goals first | omega | skip
  all_goals try (obtain ⟨p, rfl, hp⟩ := h1 a0 (by omega) (by omega); rw [Int.toNat_natCast]; refine cl_give n s _ h.up p hp a1 a2 _ _ _ 0 (Nat.zero_add _) ?_)
  all_goals refine sb_X7_give_0 n t _ _ a1 a2 h.2.1 ?_
  all_goals repeat' first | with_reducible refine And.intro ?_ ?_ | intro _
  all_goals first | omega | exact post_ref h _ (by decide) | skip
  rw [Int.toNat_natCast]
  exact rl_give n s _ h.up p hp a1 a2 _ (post_same h rfl)
end
section
/-! SUMS OVER THE PEOPLE -/
theorem sb_X5_sumOf_0_3_6 (n : Nat) (s : Nat → Nat → Int) (Q : List Vl → Sto → Prop) (hR : refs s)
    (h : G 2 120 45 4 [(3, 3), (3, 6), (1, 0), (1, 0)] [] (n, s) Q) :
    G 2 120 45 0 [(3, 3), (3, 6), (0, 0), (0, 0)] [] (n, s) Q := by
  refine G_go rfl rfl ?_
  refine G_go rfl rfl ?_
  show G 2 120 45 2 [(3, 3), (3, 6), (1, 0), (0, 0)] [] (n, s) Q
  refine G_go rfl rfl ?_
  refine G_go rfl rfl ?_
  show G 2 120 45 4 [(3, 3), (3, 6), (1, 0), (1, 0)] [] (n, s) Q
  exact h
theorem sb_X5_sumOf_2_3_6 (n : Nat) (s : Nat → Nat → Int) (Q : List Vl → Sto → Prop) (x2 : Int) (hR : refs s)
    (h : G 2 120 45 4 [(3, 3), (3, 6), (1, x2), (1, 0)] [] (n, s) Q) :
    G 2 120 45 2 [(3, 3), (3, 6), (1, x2), (0, 0)] [] (n, s) Q := by
  refine G_go rfl rfl ?_
  refine G_go rfl rfl ?_
  show G 2 120 45 4 [(3, 3), (3, 6), (1, x2), (1, 0)] [] (n, s) Q
  exact h
theorem sb_X5_sumOf_4_3_6 (n : Nat) (s : Nat → Nat → Int) (Q : List Vl → Sto → Prop) (x2 : Int) (x3 : Int) (hR : refs s)
    (h : (s 3 9 ≤ x3 → Q [(1, x2)] (n, s)) ∧ (x3 < s 3 9 → (6 ≤ x3 → Q [(1, x2)] (n, s)) ∧ (x3 < 6 → (0 ≤ x3 ∧ x3 < 6) ∧ (G 2 120 45 4 [(3, 3), (3, 6), (1, wr (x2 + (s 6 x3.toNat))), (1, wr (x3 + 1))] [] (n, s) Q)))) :
    G 2 120 45 4 [(3, 3), (3, 6), (1, x2), (1, x3)] [] (n, s) Q := by
  refine G_go rfl rfl ?_
  refine G_go rfl rfl ?_
  refine G_rd rfl rfl (by decide) ?_
  refine G_ge rfl rfl (fun c1 => ?_) (fun c1 => ?_)
  · have h := h.1 c1
    refine G_go rfl rfl ?_
    exact G_ret rfl rfl h
  · have h := h.2 c1
    refine G_go rfl rfl ?_
    refine G_go rfl rfl ?_
    refine G_go rfl rfl ?_
    refine G_ge rfl rfl (fun c2 => ?_) (fun c2 => ?_)
    · have h := h.1 c2
      refine G_go rfl rfl ?_
      exact G_ret rfl rfl h
    · have h := h.2 c2
      refine G_go rfl rfl ?_
      refine G_go rfl rfl ?_
      refine G_go rfl rfl ?_
      obtain ⟨g3, h⟩ := h
      refine G_ir (n := 6) rfl rfl (by decide) (by decide) g3 ?_
      refine G_go rfl rfl ?_
      refine G_go rfl rfl ?_
      show G 2 120 45 24 [(3, 3), (3, 6), (1, wr (x2 + (s 6 x3.toNat))), (1, x3)] [] (n, s) Q
      refine G_go rfl rfl ?_
      refine G_go rfl rfl ?_
      exact h
theorem sb_X5_sumOf_24_3_6 (n : Nat) (s : Nat → Nat → Int) (Q : List Vl → Sto → Prop) (x2 : Int) (x3 : Int) (hR : refs s)
    (h : G 2 120 45 4 [(3, 3), (3, 6), (1, x2), (1, wr (x3 + 1))] [] (n, s) Q) :
    G 2 120 45 24 [(3, 3), (3, 6), (1, x2), (1, x3)] [] (n, s) Q := by
  refine G_go rfl rfl ?_
  refine G_go rfl rfl ?_
  exact h
theorem c_X5_sumOf_3_6 (n : Nat) (s : Nat → Nat → Int) (Q : List Vl → Sto → Prop) (hR : refs s) (g : 0 ≤ s 3 9 ∧ s 3 9 ≤ 6) (hq : Q [(1, itr (smF (s 6)) 0 (s 3 9).toNat)] (n, s)) : G 2 120 45 0 [(3, 3), (3, 6), (0, 0), (0, 0)] [] (n, s) Q := by
  refine sb_X5_sumOf_0_3_6 n s Q hR ?_
  refine G_up (s 3 9).toNat (fun k b => G 2 120 45 4 [(3, 3), (3, 6), (1, b), (1, (k : Int))] [] (n, s) Q) (smF (s 6)) (fun _ _ => True) 0 trivial (fun _ _ _ _ => trivial) (fun k b hk _ hg => ?_) (fun _ => ?_)
  · rw [← wr_s hk (by omega)] at hg
    exact sb_X5_sumOf_4_3_6 n s Q b k hR ⟨fun e => by omega, fun _ => ⟨fun e => by omega, fun _ => ⟨by omega, hg⟩⟩⟩
  · exact sb_X5_sumOf_4_3_6 n s Q _ _ hR ⟨fun _ => hq, fun e => by omega⟩
theorem sb_X5_sumOf_0_3_8 (n : Nat) (s : Nat → Nat → Int) (Q : List Vl → Sto → Prop) (hR : refs s)
    (h : G 2 120 45 4 [(3, 3), (3, 8), (1, 0), (1, 0)] [] (n, s) Q) :
    G 2 120 45 0 [(3, 3), (3, 8), (0, 0), (0, 0)] [] (n, s) Q := by
  refine G_go rfl rfl ?_
  refine G_go rfl rfl ?_
  show G 2 120 45 2 [(3, 3), (3, 8), (1, 0), (0, 0)] [] (n, s) Q
  refine G_go rfl rfl ?_
  refine G_go rfl rfl ?_
  show G 2 120 45 4 [(3, 3), (3, 8), (1, 0), (1, 0)] [] (n, s) Q
  exact h
theorem sb_X5_sumOf_2_3_8 (n : Nat) (s : Nat → Nat → Int) (Q : List Vl → Sto → Prop) (x2 : Int) (hR : refs s)
    (h : G 2 120 45 4 [(3, 3), (3, 8), (1, x2), (1, 0)] [] (n, s) Q) :
    G 2 120 45 2 [(3, 3), (3, 8), (1, x2), (0, 0)] [] (n, s) Q := by
  refine G_go rfl rfl ?_
  refine G_go rfl rfl ?_
  show G 2 120 45 4 [(3, 3), (3, 8), (1, x2), (1, 0)] [] (n, s) Q
  exact h
theorem sb_X5_sumOf_4_3_8 (n : Nat) (s : Nat → Nat → Int) (Q : List Vl → Sto → Prop) (x2 : Int) (x3 : Int) (hR : refs s)
    (h : (s 3 9 ≤ x3 → Q [(1, x2)] (n, s)) ∧ (x3 < s 3 9 → (6 ≤ x3 → Q [(1, x2)] (n, s)) ∧ (x3 < 6 → (0 ≤ x3 ∧ x3 < 6) ∧ (G 2 120 45 4 [(3, 3), (3, 8), (1, wr (x2 + (s 8 x3.toNat))), (1, wr (x3 + 1))] [] (n, s) Q)))) :
    G 2 120 45 4 [(3, 3), (3, 8), (1, x2), (1, x3)] [] (n, s) Q := by
  refine G_go rfl rfl ?_
  refine G_go rfl rfl ?_
  refine G_rd rfl rfl (by decide) ?_
  refine G_ge rfl rfl (fun c1 => ?_) (fun c1 => ?_)
  · have h := h.1 c1
    refine G_go rfl rfl ?_
    exact G_ret rfl rfl h
  · have h := h.2 c1
    refine G_go rfl rfl ?_
    refine G_go rfl rfl ?_
    refine G_go rfl rfl ?_
    refine G_ge rfl rfl (fun c2 => ?_) (fun c2 => ?_)
    · have h := h.1 c2
      refine G_go rfl rfl ?_
      exact G_ret rfl rfl h
    · have h := h.2 c2
      refine G_go rfl rfl ?_
      refine G_go rfl rfl ?_
      refine G_go rfl rfl ?_
      obtain ⟨g3, h⟩ := h
      refine G_ir (n := 6) rfl rfl (by decide) (by decide) g3 ?_
      refine G_go rfl rfl ?_
      refine G_go rfl rfl ?_
      show G 2 120 45 24 [(3, 3), (3, 8), (1, wr (x2 + (s 8 x3.toNat))), (1, x3)] [] (n, s) Q
      refine G_go rfl rfl ?_
      refine G_go rfl rfl ?_
      exact h
theorem sb_X5_sumOf_24_3_8 (n : Nat) (s : Nat → Nat → Int) (Q : List Vl → Sto → Prop) (x2 : Int) (x3 : Int) (hR : refs s)
    (h : G 2 120 45 4 [(3, 3), (3, 8), (1, x2), (1, wr (x3 + 1))] [] (n, s) Q) :
    G 2 120 45 24 [(3, 3), (3, 8), (1, x2), (1, x3)] [] (n, s) Q := by
  refine G_go rfl rfl ?_
  refine G_go rfl rfl ?_
  exact h
theorem c_X5_sumOf_3_8 (n : Nat) (s : Nat → Nat → Int) (Q : List Vl → Sto → Prop) (hR : refs s) (g : 0 ≤ s 3 9 ∧ s 3 9 ≤ 6) (hq : Q [(1, itr (smF (s 8)) 0 (s 3 9).toNat)] (n, s)) : G 2 120 45 0 [(3, 3), (3, 8), (0, 0), (0, 0)] [] (n, s) Q := by
  refine sb_X5_sumOf_0_3_8 n s Q hR ?_
  refine G_up (s 3 9).toNat (fun k b => G 2 120 45 4 [(3, 3), (3, 8), (1, b), (1, (k : Int))] [] (n, s) Q) (smF (s 8)) (fun _ _ => True) 0 trivial (fun _ _ _ _ => trivial) (fun k b hk _ hg => ?_) (fun _ => ?_)
  · rw [← wr_s hk (by omega)] at hg
    exact sb_X5_sumOf_4_3_8 n s Q b k hR ⟨fun e => by omega, fun _ => ⟨fun e => by omega, fun _ => ⟨by omega, hg⟩⟩⟩
  · exact sb_X5_sumOf_4_3_8 n s Q _ _ hR ⟨fun _ => hq, fun e => by omega⟩
theorem sb_X5_sumOf_0_3_10 (n : Nat) (s : Nat → Nat → Int) (Q : List Vl → Sto → Prop) (hR : refs s)
    (h : G 2 120 45 4 [(3, 3), (3, 10), (1, 0), (1, 0)] [] (n, s) Q) :
    G 2 120 45 0 [(3, 3), (3, 10), (0, 0), (0, 0)] [] (n, s) Q := by
  refine G_go rfl rfl ?_
  refine G_go rfl rfl ?_
  show G 2 120 45 2 [(3, 3), (3, 10), (1, 0), (0, 0)] [] (n, s) Q
  refine G_go rfl rfl ?_
  refine G_go rfl rfl ?_
  show G 2 120 45 4 [(3, 3), (3, 10), (1, 0), (1, 0)] [] (n, s) Q
  exact h
theorem sb_X5_sumOf_2_3_10 (n : Nat) (s : Nat → Nat → Int) (Q : List Vl → Sto → Prop) (x2 : Int) (hR : refs s)
    (h : G 2 120 45 4 [(3, 3), (3, 10), (1, x2), (1, 0)] [] (n, s) Q) :
    G 2 120 45 2 [(3, 3), (3, 10), (1, x2), (0, 0)] [] (n, s) Q := by
  refine G_go rfl rfl ?_
  refine G_go rfl rfl ?_
  show G 2 120 45 4 [(3, 3), (3, 10), (1, x2), (1, 0)] [] (n, s) Q
  exact h
theorem sb_X5_sumOf_4_3_10 (n : Nat) (s : Nat → Nat → Int) (Q : List Vl → Sto → Prop) (x2 : Int) (x3 : Int) (hR : refs s)
    (h : (s 3 9 ≤ x3 → Q [(1, x2)] (n, s)) ∧ (x3 < s 3 9 → (6 ≤ x3 → Q [(1, x2)] (n, s)) ∧ (x3 < 6 → (0 ≤ x3 ∧ x3 < 6) ∧ (G 2 120 45 4 [(3, 3), (3, 10), (1, wr (x2 + (s 10 x3.toNat))), (1, wr (x3 + 1))] [] (n, s) Q)))) :
    G 2 120 45 4 [(3, 3), (3, 10), (1, x2), (1, x3)] [] (n, s) Q := by
  refine G_go rfl rfl ?_
  refine G_go rfl rfl ?_
  refine G_rd rfl rfl (by decide) ?_
  refine G_ge rfl rfl (fun c1 => ?_) (fun c1 => ?_)
  · have h := h.1 c1
    refine G_go rfl rfl ?_
    exact G_ret rfl rfl h
  · have h := h.2 c1
    refine G_go rfl rfl ?_
    refine G_go rfl rfl ?_
    refine G_go rfl rfl ?_
    refine G_ge rfl rfl (fun c2 => ?_) (fun c2 => ?_)
    · have h := h.1 c2
      refine G_go rfl rfl ?_
      exact G_ret rfl rfl h
    · have h := h.2 c2
      refine G_go rfl rfl ?_
      refine G_go rfl rfl ?_
      refine G_go rfl rfl ?_
      obtain ⟨g3, h⟩ := h
      refine G_ir (n := 6) rfl rfl (by decide) (by decide) g3 ?_
      refine G_go rfl rfl ?_
      refine G_go rfl rfl ?_
      show G 2 120 45 24 [(3, 3), (3, 10), (1, wr (x2 + (s 10 x3.toNat))), (1, x3)] [] (n, s) Q
      refine G_go rfl rfl ?_
      refine G_go rfl rfl ?_
      exact h
theorem sb_X5_sumOf_24_3_10 (n : Nat) (s : Nat → Nat → Int) (Q : List Vl → Sto → Prop) (x2 : Int) (x3 : Int) (hR : refs s)
    (h : G 2 120 45 4 [(3, 3), (3, 10), (1, x2), (1, wr (x3 + 1))] [] (n, s) Q) :
    G 2 120 45 24 [(3, 3), (3, 10), (1, x2), (1, x3)] [] (n, s) Q := by
  refine G_go rfl rfl ?_
  refine G_go rfl rfl ?_
  exact h
theorem c_X5_sumOf_3_10 (n : Nat) (s : Nat → Nat → Int) (Q : List Vl → Sto → Prop) (hR : refs s) (g : 0 ≤ s 3 9 ∧ s 3 9 ≤ 6) (hq : Q [(1, itr (smF (s 10)) 0 (s 3 9).toNat)] (n, s)) : G 2 120 45 0 [(3, 3), (3, 10), (0, 0), (0, 0)] [] (n, s) Q := by
  refine sb_X5_sumOf_0_3_10 n s Q hR ?_
  refine G_up (s 3 9).toNat (fun k b => G 2 120 45 4 [(3, 3), (3, 10), (1, b), (1, (k : Int))] [] (n, s) Q) (smF (s 10)) (fun _ _ => True) 0 trivial (fun _ _ _ _ => trivial) (fun k b hk _ hg => ?_) (fun _ => ?_)
  · rw [← wr_s hk (by omega)] at hg
    exact sb_X5_sumOf_4_3_10 n s Q b k hR ⟨fun e => by omega, fun _ => ⟨fun e => by omega, fun _ => ⟨by omega, hg⟩⟩⟩
  · exact sb_X5_sumOf_4_3_10 n s Q _ _ hR ⟨fun _ => hq, fun e => by omega⟩
theorem sb_X5_sumOf_0_13_16 (n : Nat) (s : Nat → Nat → Int) (Q : List Vl → Sto → Prop) (hR : refs s)
    (h : G 2 120 45 4 [(3, 13), (3, 16), (1, 0), (1, 0)] [] (n, s) Q) :
    G 2 120 45 0 [(3, 13), (3, 16), (0, 0), (0, 0)] [] (n, s) Q := by
  refine G_go rfl rfl ?_
  refine G_go rfl rfl ?_
  show G 2 120 45 2 [(3, 13), (3, 16), (1, 0), (0, 0)] [] (n, s) Q
  refine G_go rfl rfl ?_
  refine G_go rfl rfl ?_
  show G 2 120 45 4 [(3, 13), (3, 16), (1, 0), (1, 0)] [] (n, s) Q
  exact h
theorem sb_X5_sumOf_2_13_16 (n : Nat) (s : Nat → Nat → Int) (Q : List Vl → Sto → Prop) (x2 : Int) (hR : refs s)
    (h : G 2 120 45 4 [(3, 13), (3, 16), (1, x2), (1, 0)] [] (n, s) Q) :
    G 2 120 45 2 [(3, 13), (3, 16), (1, x2), (0, 0)] [] (n, s) Q := by
  refine G_go rfl rfl ?_
  refine G_go rfl rfl ?_
  show G 2 120 45 4 [(3, 13), (3, 16), (1, x2), (1, 0)] [] (n, s) Q
  exact h
theorem sb_X5_sumOf_4_13_16 (n : Nat) (s : Nat → Nat → Int) (Q : List Vl → Sto → Prop) (x2 : Int) (x3 : Int) (hR : refs s)
    (h : (s 13 9 ≤ x3 → Q [(1, x2)] (n, s)) ∧ (x3 < s 13 9 → (6 ≤ x3 → Q [(1, x2)] (n, s)) ∧ (x3 < 6 → (0 ≤ x3 ∧ x3 < 6) ∧ (G 2 120 45 4 [(3, 13), (3, 16), (1, wr (x2 + (s 16 x3.toNat))), (1, wr (x3 + 1))] [] (n, s) Q)))) :
    G 2 120 45 4 [(3, 13), (3, 16), (1, x2), (1, x3)] [] (n, s) Q := by
  refine G_go rfl rfl ?_
  refine G_go rfl rfl ?_
  refine G_rd rfl rfl (by decide) ?_
  refine G_ge rfl rfl (fun c1 => ?_) (fun c1 => ?_)
  · have h := h.1 c1
    refine G_go rfl rfl ?_
    exact G_ret rfl rfl h
  · have h := h.2 c1
    refine G_go rfl rfl ?_
    refine G_go rfl rfl ?_
    refine G_go rfl rfl ?_
    refine G_ge rfl rfl (fun c2 => ?_) (fun c2 => ?_)
    · have h := h.1 c2
      refine G_go rfl rfl ?_
      exact G_ret rfl rfl h
    · have h := h.2 c2
      refine G_go rfl rfl ?_
      refine G_go rfl rfl ?_
      refine G_go rfl rfl ?_
      obtain ⟨g3, h⟩ := h
      refine G_ir (n := 6) rfl rfl (by decide) (by decide) g3 ?_
      refine G_go rfl rfl ?_
      refine G_go rfl rfl ?_
      show G 2 120 45 24 [(3, 13), (3, 16), (1, wr (x2 + (s 16 x3.toNat))), (1, x3)] [] (n, s) Q
      refine G_go rfl rfl ?_
      refine G_go rfl rfl ?_
      exact h
theorem sb_X5_sumOf_24_13_16 (n : Nat) (s : Nat → Nat → Int) (Q : List Vl → Sto → Prop) (x2 : Int) (x3 : Int) (hR : refs s)
    (h : G 2 120 45 4 [(3, 13), (3, 16), (1, x2), (1, wr (x3 + 1))] [] (n, s) Q) :
    G 2 120 45 24 [(3, 13), (3, 16), (1, x2), (1, x3)] [] (n, s) Q := by
  refine G_go rfl rfl ?_
  refine G_go rfl rfl ?_
  exact h
theorem c_X5_sumOf_13_16 (n : Nat) (s : Nat → Nat → Int) (Q : List Vl → Sto → Prop) (hR : refs s) (g : 0 ≤ s 13 9 ∧ s 13 9 ≤ 6) (hq : Q [(1, itr (smF (s 16)) 0 (s 13 9).toNat)] (n, s)) : G 2 120 45 0 [(3, 13), (3, 16), (0, 0), (0, 0)] [] (n, s) Q := by
  refine sb_X5_sumOf_0_13_16 n s Q hR ?_
  refine G_up (s 13 9).toNat (fun k b => G 2 120 45 4 [(3, 13), (3, 16), (1, b), (1, (k : Int))] [] (n, s) Q) (smF (s 16)) (fun _ _ => True) 0 trivial (fun _ _ _ _ => trivial) (fun k b hk _ hg => ?_) (fun _ => ?_)
  · rw [← wr_s hk (by omega)] at hg
    exact sb_X5_sumOf_4_13_16 n s Q b k hR ⟨fun e => by omega, fun _ => ⟨fun e => by omega, fun _ => ⟨by omega, hg⟩⟩⟩
  · exact sb_X5_sumOf_4_13_16 n s Q _ _ hR ⟨fun _ => hq, fun e => by omega⟩
theorem sb_X5_sumOf_0_13_18 (n : Nat) (s : Nat → Nat → Int) (Q : List Vl → Sto → Prop) (hR : refs s)
    (h : G 2 120 45 4 [(3, 13), (3, 18), (1, 0), (1, 0)] [] (n, s) Q) :
    G 2 120 45 0 [(3, 13), (3, 18), (0, 0), (0, 0)] [] (n, s) Q := by
  refine G_go rfl rfl ?_
  refine G_go rfl rfl ?_
  show G 2 120 45 2 [(3, 13), (3, 18), (1, 0), (0, 0)] [] (n, s) Q
  refine G_go rfl rfl ?_
  refine G_go rfl rfl ?_
  show G 2 120 45 4 [(3, 13), (3, 18), (1, 0), (1, 0)] [] (n, s) Q
  exact h
theorem sb_X5_sumOf_2_13_18 (n : Nat) (s : Nat → Nat → Int) (Q : List Vl → Sto → Prop) (x2 : Int) (hR : refs s)
    (h : G 2 120 45 4 [(3, 13), (3, 18), (1, x2), (1, 0)] [] (n, s) Q) :
    G 2 120 45 2 [(3, 13), (3, 18), (1, x2), (0, 0)] [] (n, s) Q := by
  refine G_go rfl rfl ?_
  refine G_go rfl rfl ?_
  show G 2 120 45 4 [(3, 13), (3, 18), (1, x2), (1, 0)] [] (n, s) Q
  exact h
theorem sb_X5_sumOf_4_13_18 (n : Nat) (s : Nat → Nat → Int) (Q : List Vl → Sto → Prop) (x2 : Int) (x3 : Int) (hR : refs s)
    (h : (s 13 9 ≤ x3 → Q [(1, x2)] (n, s)) ∧ (x3 < s 13 9 → (6 ≤ x3 → Q [(1, x2)] (n, s)) ∧ (x3 < 6 → (0 ≤ x3 ∧ x3 < 6) ∧ (G 2 120 45 4 [(3, 13), (3, 18), (1, wr (x2 + (s 18 x3.toNat))), (1, wr (x3 + 1))] [] (n, s) Q)))) :
    G 2 120 45 4 [(3, 13), (3, 18), (1, x2), (1, x3)] [] (n, s) Q := by
  refine G_go rfl rfl ?_
  refine G_go rfl rfl ?_
  refine G_rd rfl rfl (by decide) ?_
  refine G_ge rfl rfl (fun c1 => ?_) (fun c1 => ?_)
  · have h := h.1 c1
    refine G_go rfl rfl ?_
    exact G_ret rfl rfl h
  · have h := h.2 c1
    refine G_go rfl rfl ?_
    refine G_go rfl rfl ?_
    refine G_go rfl rfl ?_
    refine G_ge rfl rfl (fun c2 => ?_) (fun c2 => ?_)
    · have h := h.1 c2
      refine G_go rfl rfl ?_
      exact G_ret rfl rfl h
    · have h := h.2 c2
      refine G_go rfl rfl ?_
      refine G_go rfl rfl ?_
      refine G_go rfl rfl ?_
      obtain ⟨g3, h⟩ := h
      refine G_ir (n := 6) rfl rfl (by decide) (by decide) g3 ?_
      refine G_go rfl rfl ?_
      refine G_go rfl rfl ?_
      show G 2 120 45 24 [(3, 13), (3, 18), (1, wr (x2 + (s 18 x3.toNat))), (1, x3)] [] (n, s) Q
      refine G_go rfl rfl ?_
      refine G_go rfl rfl ?_
      exact h
theorem sb_X5_sumOf_24_13_18 (n : Nat) (s : Nat → Nat → Int) (Q : List Vl → Sto → Prop) (x2 : Int) (x3 : Int) (hR : refs s)
    (h : G 2 120 45 4 [(3, 13), (3, 18), (1, x2), (1, wr (x3 + 1))] [] (n, s) Q) :
    G 2 120 45 24 [(3, 13), (3, 18), (1, x2), (1, x3)] [] (n, s) Q := by
  refine G_go rfl rfl ?_
  refine G_go rfl rfl ?_
  exact h
theorem c_X5_sumOf_13_18 (n : Nat) (s : Nat → Nat → Int) (Q : List Vl → Sto → Prop) (hR : refs s) (g : 0 ≤ s 13 9 ∧ s 13 9 ≤ 6) (hq : Q [(1, itr (smF (s 18)) 0 (s 13 9).toNat)] (n, s)) : G 2 120 45 0 [(3, 13), (3, 18), (0, 0), (0, 0)] [] (n, s) Q := by
  refine sb_X5_sumOf_0_13_18 n s Q hR ?_
  refine G_up (s 13 9).toNat (fun k b => G 2 120 45 4 [(3, 13), (3, 18), (1, b), (1, (k : Int))] [] (n, s) Q) (smF (s 18)) (fun _ _ => True) 0 trivial (fun _ _ _ _ => trivial) (fun k b hk _ hg => ?_) (fun _ => ?_)
  · rw [← wr_s hk (by omega)] at hg
    exact sb_X5_sumOf_4_13_18 n s Q b k hR ⟨fun e => by omega, fun _ => ⟨fun e => by omega, fun _ => ⟨by omega, hg⟩⟩⟩
  · exact sb_X5_sumOf_4_13_18 n s Q _ _ hR ⟨fun _ => hq, fun e => by omega⟩
theorem sb_X5_sumOf_0_13_20 (n : Nat) (s : Nat → Nat → Int) (Q : List Vl → Sto → Prop) (hR : refs s)
    (h : G 2 120 45 4 [(3, 13), (3, 20), (1, 0), (1, 0)] [] (n, s) Q) :
    G 2 120 45 0 [(3, 13), (3, 20), (0, 0), (0, 0)] [] (n, s) Q := by
  refine G_go rfl rfl ?_
  refine G_go rfl rfl ?_
  show G 2 120 45 2 [(3, 13), (3, 20), (1, 0), (0, 0)] [] (n, s) Q
  refine G_go rfl rfl ?_
  refine G_go rfl rfl ?_
  show G 2 120 45 4 [(3, 13), (3, 20), (1, 0), (1, 0)] [] (n, s) Q
  exact h
theorem sb_X5_sumOf_2_13_20 (n : Nat) (s : Nat → Nat → Int) (Q : List Vl → Sto → Prop) (x2 : Int) (hR : refs s)
    (h : G 2 120 45 4 [(3, 13), (3, 20), (1, x2), (1, 0)] [] (n, s) Q) :
    G 2 120 45 2 [(3, 13), (3, 20), (1, x2), (0, 0)] [] (n, s) Q := by
  refine G_go rfl rfl ?_
  refine G_go rfl rfl ?_
  show G 2 120 45 4 [(3, 13), (3, 20), (1, x2), (1, 0)] [] (n, s) Q
  exact h
theorem sb_X5_sumOf_4_13_20 (n : Nat) (s : Nat → Nat → Int) (Q : List Vl → Sto → Prop) (x2 : Int) (x3 : Int) (hR : refs s)
    (h : (s 13 9 ≤ x3 → Q [(1, x2)] (n, s)) ∧ (x3 < s 13 9 → (6 ≤ x3 → Q [(1, x2)] (n, s)) ∧ (x3 < 6 → (0 ≤ x3 ∧ x3 < 6) ∧ (G 2 120 45 4 [(3, 13), (3, 20), (1, wr (x2 + (s 20 x3.toNat))), (1, wr (x3 + 1))] [] (n, s) Q)))) :
    G 2 120 45 4 [(3, 13), (3, 20), (1, x2), (1, x3)] [] (n, s) Q := by
  refine G_go rfl rfl ?_
  refine G_go rfl rfl ?_
  refine G_rd rfl rfl (by decide) ?_
  refine G_ge rfl rfl (fun c1 => ?_) (fun c1 => ?_)
  · have h := h.1 c1
    refine G_go rfl rfl ?_
    exact G_ret rfl rfl h
  · have h := h.2 c1
    refine G_go rfl rfl ?_
    refine G_go rfl rfl ?_
    refine G_go rfl rfl ?_
    refine G_ge rfl rfl (fun c2 => ?_) (fun c2 => ?_)
    · have h := h.1 c2
      refine G_go rfl rfl ?_
      exact G_ret rfl rfl h
    · have h := h.2 c2
      refine G_go rfl rfl ?_
      refine G_go rfl rfl ?_
      refine G_go rfl rfl ?_
      obtain ⟨g3, h⟩ := h
      refine G_ir (n := 6) rfl rfl (by decide) (by decide) g3 ?_
      refine G_go rfl rfl ?_
      refine G_go rfl rfl ?_
      show G 2 120 45 24 [(3, 13), (3, 20), (1, wr (x2 + (s 20 x3.toNat))), (1, x3)] [] (n, s) Q
      refine G_go rfl rfl ?_
      refine G_go rfl rfl ?_
      exact h
theorem sb_X5_sumOf_24_13_20 (n : Nat) (s : Nat → Nat → Int) (Q : List Vl → Sto → Prop) (x2 : Int) (x3 : Int) (hR : refs s)
    (h : G 2 120 45 4 [(3, 13), (3, 20), (1, x2), (1, wr (x3 + 1))] [] (n, s) Q) :
    G 2 120 45 24 [(3, 13), (3, 20), (1, x2), (1, x3)] [] (n, s) Q := by
  refine G_go rfl rfl ?_
  refine G_go rfl rfl ?_
  exact h
theorem c_X5_sumOf_13_20 (n : Nat) (s : Nat → Nat → Int) (Q : List Vl → Sto → Prop) (hR : refs s) (g : 0 ≤ s 13 9 ∧ s 13 9 ≤ 6) (hq : Q [(1, itr (smF (s 20)) 0 (s 13 9).toNat)] (n, s)) : G 2 120 45 0 [(3, 13), (3, 20), (0, 0), (0, 0)] [] (n, s) Q := by
  refine sb_X5_sumOf_0_13_20 n s Q hR ?_
  refine G_up (s 13 9).toNat (fun k b => G 2 120 45 4 [(3, 13), (3, 20), (1, b), (1, (k : Int))] [] (n, s) Q) (smF (s 20)) (fun _ _ => True) 0 trivial (fun _ _ _ _ => trivial) (fun k b hk _ hg => ?_) (fun _ => ?_)
  · rw [← wr_s hk (by omega)] at hg
    exact sb_X5_sumOf_4_13_20 n s Q b k hR ⟨fun e => by omega, fun _ => ⟨fun e => by omega, fun _ => ⟨by omega, hg⟩⟩⟩
  · exact sb_X5_sumOf_4_13_20 n s Q _ _ hR ⟨fun _ => hq, fun e => by omega⟩
theorem sb_X7_allPages_0 (n : Nat) (s : Nat → Nat → Int) (Q : List Vl → Sto → Prop) (hR : refs s)
    (h : G 120 140 149 4 [(3, 120), (1, 0), (1, 0)] [] (n, s) Q) :
    G 120 140 149 0 [(3, 120), (0, 0), (0, 0)] [] (n, s) Q := by
  refine G_go rfl rfl ?_
  refine G_go rfl rfl ?_
  show G 120 140 149 2 [(3, 120), (1, 0), (0, 0)] [] (n, s) Q
  refine G_go rfl rfl ?_
  refine G_go rfl rfl ?_
  show G 120 140 149 4 [(3, 120), (1, 0), (1, 0)] [] (n, s) Q
  exact h
theorem sb_X7_allPages_2 (n : Nat) (s : Nat → Nat → Int) (Q : List Vl → Sto → Prop) (x1 : Int) (hR : refs s)
    (h : G 120 140 149 4 [(3, 120), (1, x1), (1, 0)] [] (n, s) Q) :
    G 120 140 149 2 [(3, 120), (1, x1), (0, 0)] [] (n, s) Q := by
  refine G_go rfl rfl ?_
  refine G_go rfl rfl ?_
  show G 120 140 149 4 [(3, 120), (1, x1), (1, 0)] [] (n, s) Q
  exact h
theorem sb_X7_allPages_4 (n : Nat) (s : Nat → Nat → Int) (Q : List Vl → Sto → Prop) (x1 : Int) (x2 : Int) (hR : refs s)
    (h : (s 120 0 ≤ x2 → Q [(1, x1)] (n, s)) ∧ (x2 < s 120 0 → (0 ≤ x2 ∧ x2 < 6) ∧ (G 120 140 149 4 [(3, 120), (1, wr (x1 + (s 127 x2.toNat))), (1, wr (x2 + 1))] [] (n, s) Q))) :
    G 120 140 149 4 [(3, 120), (1, x1), (1, x2)] [] (n, s) Q := by
  refine G_go rfl rfl ?_
  refine G_go rfl rfl ?_
  refine G_rd rfl rfl (by decide) ?_
  refine G_ge rfl rfl (fun c1 => ?_) (fun c1 => ?_)
  · have h := h.1 c1
    refine G_go rfl rfl ?_
    exact G_ret rfl rfl h
  · have h := h.2 c1
    refine G_go rfl rfl ?_
    refine G_go rfl rfl ?_
    refine G_rf rfl rfl (by decide) (hR 120 7 127 rfl) ?_
    refine G_go rfl rfl ?_
    obtain ⟨g2, h⟩ := h
    refine G_ir (n := 6) rfl rfl (by decide) (by decide) g2 ?_
    refine G_go rfl rfl ?_
    refine G_go rfl rfl ?_
    show G 120 140 149 21 [(3, 120), (1, wr (x1 + (s 127 x2.toNat))), (1, x2)] [] (n, s) Q
    refine G_go rfl rfl ?_
    refine G_go rfl rfl ?_
    exact h
theorem sb_X7_allPages_21 (n : Nat) (s : Nat → Nat → Int) (Q : List Vl → Sto → Prop) (x1 : Int) (x2 : Int) (hR : refs s)
    (h : G 120 140 149 4 [(3, 120), (1, x1), (1, wr (x2 + 1))] [] (n, s) Q) :
    G 120 140 149 21 [(3, 120), (1, x1), (1, x2)] [] (n, s) Q := by
  refine G_go rfl rfl ?_
  refine G_go rfl rfl ?_
  exact h
theorem c_X7_allPages (n : Nat) (s : Nat → Nat → Int) (Q : List Vl → Sto → Prop) (hR : refs s) (g : 0 ≤ s 120 0 ∧ s 120 0 ≤ 6) (hq : Q [(1, itr (smF (s 127)) 0 (s 120 0).toNat)] (n, s)) : G 120 140 149 0 [(3, 120), (0, 0), (0, 0)] [] (n, s) Q := by
  refine sb_X7_allPages_0 n s Q hR ?_
  refine G_up (s 120 0).toNat (fun k b => G 120 140 149 4 [(3, 120), (1, b), (1, (k : Int))] [] (n, s) Q) (smF (s 127)) (fun _ _ => True) 0 trivial (fun _ _ _ _ => trivial) (fun k b hk _ hg => ?_) (fun _ => ?_)
  · rw [← wr_s hk (by omega)] at hg
    exact sb_X7_allPages_4 n s Q b k hR ⟨fun e => by omega, fun _ => ⟨by omega, hg⟩⟩
  · exact sb_X7_allPages_4 n s Q _ _ hR ⟨fun _ => hq, fun e => by omega⟩
theorem sb_X7_allCandles_0 (n : Nat) (s : Nat → Nat → Int) (Q : List Vl → Sto → Prop) (hR : refs s)
    (h : G 120 140 151 4 [(3, 120), (1, 0), (1, 0)] [] (n, s) Q) :
    G 120 140 151 0 [(3, 120), (0, 0), (0, 0)] [] (n, s) Q := by
  refine G_go rfl rfl ?_
  refine G_go rfl rfl ?_
  show G 120 140 151 2 [(3, 120), (1, 0), (0, 0)] [] (n, s) Q
  refine G_go rfl rfl ?_
  refine G_go rfl rfl ?_
  show G 120 140 151 4 [(3, 120), (1, 0), (1, 0)] [] (n, s) Q
  exact h
theorem sb_X7_allCandles_2 (n : Nat) (s : Nat → Nat → Int) (Q : List Vl → Sto → Prop) (x1 : Int) (hR : refs s)
    (h : G 120 140 151 4 [(3, 120), (1, x1), (1, 0)] [] (n, s) Q) :
    G 120 140 151 2 [(3, 120), (1, x1), (0, 0)] [] (n, s) Q := by
  refine G_go rfl rfl ?_
  refine G_go rfl rfl ?_
  show G 120 140 151 4 [(3, 120), (1, x1), (1, 0)] [] (n, s) Q
  exact h
theorem sb_X7_allCandles_4 (n : Nat) (s : Nat → Nat → Int) (Q : List Vl → Sto → Prop) (x1 : Int) (x2 : Int) (hR : refs s)
    (h : (s 120 0 ≤ x2 → Q [(1, x1)] (n, s)) ∧ (x2 < s 120 0 → (0 ≤ x2 ∧ x2 < 6) ∧ (G 120 140 151 4 [(3, 120), (1, wr (x1 + (s 125 x2.toNat))), (1, wr (x2 + 1))] [] (n, s) Q))) :
    G 120 140 151 4 [(3, 120), (1, x1), (1, x2)] [] (n, s) Q := by
  refine G_go rfl rfl ?_
  refine G_go rfl rfl ?_
  refine G_rd rfl rfl (by decide) ?_
  refine G_ge rfl rfl (fun c1 => ?_) (fun c1 => ?_)
  · have h := h.1 c1
    refine G_go rfl rfl ?_
    exact G_ret rfl rfl h
  · have h := h.2 c1
    refine G_go rfl rfl ?_
    refine G_go rfl rfl ?_
    refine G_rf rfl rfl (by decide) (hR 120 5 125 rfl) ?_
    refine G_go rfl rfl ?_
    obtain ⟨g2, h⟩ := h
    refine G_ir (n := 6) rfl rfl (by decide) (by decide) g2 ?_
    refine G_go rfl rfl ?_
    refine G_go rfl rfl ?_
    show G 120 140 151 21 [(3, 120), (1, wr (x1 + (s 125 x2.toNat))), (1, x2)] [] (n, s) Q
    refine G_go rfl rfl ?_
    refine G_go rfl rfl ?_
    exact h
theorem sb_X7_allCandles_21 (n : Nat) (s : Nat → Nat → Int) (Q : List Vl → Sto → Prop) (x1 : Int) (x2 : Int) (hR : refs s)
    (h : G 120 140 151 4 [(3, 120), (1, x1), (1, wr (x2 + 1))] [] (n, s) Q) :
    G 120 140 151 21 [(3, 120), (1, x1), (1, x2)] [] (n, s) Q := by
  refine G_go rfl rfl ?_
  refine G_go rfl rfl ?_
  exact h
theorem c_X7_allCandles (n : Nat) (s : Nat → Nat → Int) (Q : List Vl → Sto → Prop) (hR : refs s) (g : 0 ≤ s 120 0 ∧ s 120 0 ≤ 6) (hq : Q [(1, itr (smF (s 125)) 0 (s 120 0).toNat)] (n, s)) : G 120 140 151 0 [(3, 120), (0, 0), (0, 0)] [] (n, s) Q := by
  refine sb_X7_allCandles_0 n s Q hR ?_
  refine G_up (s 120 0).toNat (fun k b => G 120 140 151 4 [(3, 120), (1, b), (1, (k : Int))] [] (n, s) Q) (smF (s 125)) (fun _ _ => True) 0 trivial (fun _ _ _ _ => trivial) (fun k b hk _ hg => ?_) (fun _ => ?_)
  · rw [← wr_s hk (by omega)] at hg
    exact sb_X7_allCandles_4 n s Q b k hR ⟨fun e => by omega, fun _ => ⟨by omega, hg⟩⟩
  · exact sb_X7_allCandles_4 n s Q _ _ hR ⟨fun _ => hq, fun e => by omega⟩
theorem sb_X7_allHolds_0 (n : Nat) (s : Nat → Nat → Int) (Q : List Vl → Sto → Prop) (hR : refs s)
    (h : G 120 140 152 4 [(3, 120), (1, 0), (1, 0)] [] (n, s) Q) :
    G 120 140 152 0 [(3, 120), (0, 0), (0, 0)] [] (n, s) Q := by
  refine G_go rfl rfl ?_
  refine G_go rfl rfl ?_
  show G 120 140 152 2 [(3, 120), (1, 0), (0, 0)] [] (n, s) Q
  refine G_go rfl rfl ?_
  refine G_go rfl rfl ?_
  show G 120 140 152 4 [(3, 120), (1, 0), (1, 0)] [] (n, s) Q
  exact h
theorem sb_X7_allHolds_2 (n : Nat) (s : Nat → Nat → Int) (Q : List Vl → Sto → Prop) (x1 : Int) (hR : refs s)
    (h : G 120 140 152 4 [(3, 120), (1, x1), (1, 0)] [] (n, s) Q) :
    G 120 140 152 2 [(3, 120), (1, x1), (0, 0)] [] (n, s) Q := by
  refine G_go rfl rfl ?_
  refine G_go rfl rfl ?_
  show G 120 140 152 4 [(3, 120), (1, x1), (1, 0)] [] (n, s) Q
  exact h
theorem sb_X7_allHolds_4 (n : Nat) (s : Nat → Nat → Int) (Q : List Vl → Sto → Prop) (x1 : Int) (x2 : Int) (hR : refs s)
    (h : (s 120 0 ≤ x2 → Q [(1, x1)] (n, s)) ∧ (x2 < s 120 0 → (0 ≤ x2 ∧ x2 < 6) ∧ (G 120 140 152 4 [(3, 120), (1, wr (x1 + (s 123 x2.toNat))), (1, wr (x2 + 1))] [] (n, s) Q))) :
    G 120 140 152 4 [(3, 120), (1, x1), (1, x2)] [] (n, s) Q := by
  refine G_go rfl rfl ?_
  refine G_go rfl rfl ?_
  refine G_rd rfl rfl (by decide) ?_
  refine G_ge rfl rfl (fun c1 => ?_) (fun c1 => ?_)
  · have h := h.1 c1
    refine G_go rfl rfl ?_
    exact G_ret rfl rfl h
  · have h := h.2 c1
    refine G_go rfl rfl ?_
    refine G_go rfl rfl ?_
    refine G_rf rfl rfl (by decide) (hR 120 3 123 rfl) ?_
    refine G_go rfl rfl ?_
    obtain ⟨g2, h⟩ := h
    refine G_ir (n := 6) rfl rfl (by decide) (by decide) g2 ?_
    refine G_go rfl rfl ?_
    refine G_go rfl rfl ?_
    show G 120 140 152 21 [(3, 120), (1, wr (x1 + (s 123 x2.toNat))), (1, x2)] [] (n, s) Q
    refine G_go rfl rfl ?_
    refine G_go rfl rfl ?_
    exact h
theorem sb_X7_allHolds_21 (n : Nat) (s : Nat → Nat → Int) (Q : List Vl → Sto → Prop) (x1 : Int) (x2 : Int) (hR : refs s)
    (h : G 120 140 152 4 [(3, 120), (1, x1), (1, wr (x2 + 1))] [] (n, s) Q) :
    G 120 140 152 21 [(3, 120), (1, x1), (1, x2)] [] (n, s) Q := by
  refine G_go rfl rfl ?_
  refine G_go rfl rfl ?_
  exact h
theorem c_X7_allHolds (n : Nat) (s : Nat → Nat → Int) (Q : List Vl → Sto → Prop) (hR : refs s) (g : 0 ≤ s 120 0 ∧ s 120 0 ≤ 6) (hq : Q [(1, itr (smF (s 123)) 0 (s 120 0).toNat)] (n, s)) : G 120 140 152 0 [(3, 120), (0, 0), (0, 0)] [] (n, s) Q := by
  refine sb_X7_allHolds_0 n s Q hR ?_
  refine G_up (s 120 0).toNat (fun k b => G 120 140 152 4 [(3, 120), (1, b), (1, (k : Int))] [] (n, s) Q) (smF (s 123)) (fun _ _ => True) 0 trivial (fun _ _ _ _ => trivial) (fun k b hk _ hg => ?_) (fun _ => ?_)
  · rw [← wr_s hk (by omega)] at hg
    exact sb_X7_allHolds_4 n s Q b k hR ⟨fun e => by omega, fun _ => ⟨by omega, hg⟩⟩
  · exact sb_X7_allHolds_4 n s Q _ _ hR ⟨fun _ => hq, fun e => by omega⟩
theorem sb_X6_shares_0 (n : Nat) (s : Nat → Nat → Int) (Q : List Vl → Sto → Prop) (a0 : Int) (hR : refs s)
    (h : (a0 < 0 → Q [(1, (-2))] (n, upS s 119 2 (wr ((s 119 2) + 1)))) ∧ (0 ≤ a0 → (a0 ≤ 1 → (s 3 9 ≠ 0 → (a0 ≠ 0 → (0 ≤ s 3 9 ∧ s 3 9 ≤ 6) ∧ (Q [(1, xrem (itr (smF (s 8)) 0 (s 3 9).toNat) (s 3 9))] (n, s))) ∧ (a0 = 0 → (0 ≤ s 3 9 ∧ s 3 9 ≤ 6) ∧ (Q [(1, xdiv (itr (smF (s 8)) 0 (s 3 9).toNat) (s 3 9))] (n, s)))) ∧ (s 3 9 = 0 → Q [(1, 0)] (n, s))) ∧ (1 < a0 → Q [(1, (-2))] (n, upS s 119 2 (wr ((s 119 2) + 1)))))) :
    G 2 120 125 0 [(3, 2), (1, a0), (0, 0)] [] (n, s) Q := by
  refine G_go rfl rfl ?_
  refine G_go rfl rfl ?_
  refine G_call rfl rfl ?_
  refine G_go rfl rfl ?_
  refine G_lt rfl rfl (fun c1 => ?_) (fun c1 => ?_)
  · have h := h.1 c1
    refine G_go rfl rfl ?_
    refine G_go rfl rfl ?_
    refine G_ret rfl rfl ?_
    refine G_go rfl rfl ?_
    show G 2 120 125 6 [(3, 2), (1, a0), (1, (-2))] [] (n, s) Q
    refine G_go rfl rfl ?_
    refine G_brF rfl rfl rfl ?_
    refine G_go rfl rfl ?_
    refine G_go rfl rfl ?_
    refine G_call rfl rfl ?_
    refine G_go rfl rfl ?_
    refine G_go rfl rfl ?_
    refine G_go rfl rfl ?_
    refine G_go rfl rfl ?_
    refine G_brF rfl rfl rfl ?_
    refine G_go rfl rfl ?_
    refine G_go rfl rfl ?_
    refine G_rf rfl rfl (by decide) (hR 2 7 119 rfl) ?_
    refine G_go rfl rfl ?_
    refine G_brF rfl rfl rfl ?_
    refine G_go rfl rfl ?_
    refine G_rf rfl rfl (by decide) (hR 2 7 119 rfl) ?_
    refine G_go rfl rfl ?_
    refine G_go rfl rfl ?_
    refine G_ir (n := 7) rfl rfl (by decide) (by decide) (by decide) ?_
    refine G_go rfl rfl ?_
    refine G_go rfl rfl ?_
    refine G_iw (n := 7) rfl rfl (by decide) (by decide) (by decide) ?_
    have hR := refs_up (a := 119) (k := 2) (x := wr ((s 119 2) + 1)) hR rfl
    refine G_go rfl rfl ?_
    refine G_ret rfl rfl ?_
    exact G_ret rfl rfl h
  · have h := h.2 c1
    refine G_go rfl rfl ?_
    refine G_go rfl rfl ?_
    refine G_le rfl rfl (fun c2 => ?_) (fun c2 => ?_)
    · have h := h.1 c2
      refine G_go rfl rfl ?_
      refine G_ret rfl rfl ?_
      refine G_go rfl rfl ?_
      show G 2 120 125 6 [(3, 2), (1, a0), (1, 0)] [] (n, s) Q
      refine G_go rfl rfl ?_
      refine G_brT rfl rfl rfl ?_
      refine G_go rfl rfl ?_
      refine G_rf rfl rfl (by decide) (hR 2 0 3 rfl) ?_
      refine G_rd rfl rfl (by decide) ?_
      refine G_ne rfl rfl (fun c3 => ?_) (fun c3 => ?_)
      · have h := h.1 c3
        refine G_go rfl rfl ?_
        refine G_ne rfl rfl (fun c4 => ?_) (fun c4 => ?_)
        · have h := h.1 c4
          refine G_go rfl rfl ?_
          refine G_rf rfl rfl (by decide) (hR 2 0 3 rfl) ?_
          refine G_call rfl rfl ?_
          refine G_go rfl rfl ?_
          refine G_go rfl rfl ?_
          refine G_rf rfl rfl (by decide) (hR 3 4 8 rfl) ?_
          refine G_call rfl rfl ?_
          obtain ⟨g5, h⟩ := h
          refine c_X5_sumOf_3_8 n _ _ hR g5 ?_
          refine G_ret rfl rfl ?_
          refine G_go rfl rfl ?_
          refine G_rf rfl rfl (by decide) (hR 2 0 3 rfl) ?_
          refine G_rd rfl rfl (by decide) ?_
          refine G_irem rfl c3 ?_
          exact G_ret rfl rfl h
        · have h := h.2 c4
          refine G_go rfl rfl ?_
          refine G_rf rfl rfl (by decide) (hR 2 0 3 rfl) ?_
          refine G_call rfl rfl ?_
          refine G_go rfl rfl ?_
          refine G_go rfl rfl ?_
          refine G_rf rfl rfl (by decide) (hR 3 4 8 rfl) ?_
          refine G_call rfl rfl ?_
          obtain ⟨g6, h⟩ := h
          refine c_X5_sumOf_3_8 n _ _ hR g6 ?_
          refine G_ret rfl rfl ?_
          refine G_go rfl rfl ?_
          refine G_rf rfl rfl (by decide) (hR 2 0 3 rfl) ?_
          refine G_rd rfl rfl (by decide) ?_
          refine G_idiv rfl c3 ?_
          refine G_go rfl rfl ?_
          exact G_ret rfl rfl h
      · have h := h.2 c3
        refine G_go rfl rfl ?_
        exact G_ret rfl rfl h
    · have h := h.2 c2
      refine G_go rfl rfl ?_
      refine G_go rfl rfl ?_
      refine G_ret rfl rfl ?_
      refine G_go rfl rfl ?_
      show G 2 120 125 6 [(3, 2), (1, a0), (1, (-2))] [] (n, s) Q
      refine G_go rfl rfl ?_
      refine G_brF rfl rfl rfl ?_
      refine G_go rfl rfl ?_
      refine G_go rfl rfl ?_
      refine G_call rfl rfl ?_
      refine G_go rfl rfl ?_
      refine G_go rfl rfl ?_
      refine G_go rfl rfl ?_
      refine G_go rfl rfl ?_
      refine G_brF rfl rfl rfl ?_
      refine G_go rfl rfl ?_
      refine G_go rfl rfl ?_
      refine G_rf rfl rfl (by decide) (hR 2 7 119 rfl) ?_
      refine G_go rfl rfl ?_
      refine G_brF rfl rfl rfl ?_
      refine G_go rfl rfl ?_
      refine G_rf rfl rfl (by decide) (hR 2 7 119 rfl) ?_
      refine G_go rfl rfl ?_
      refine G_go rfl rfl ?_
      refine G_ir (n := 7) rfl rfl (by decide) (by decide) (by decide) ?_
      refine G_go rfl rfl ?_
      refine G_go rfl rfl ?_
      refine G_iw (n := 7) rfl rfl (by decide) (by decide) (by decide) ?_
      have hR := refs_up (a := 119) (k := 2) (x := wr ((s 119 2) + 1)) hR rfl
      refine G_go rfl rfl ?_
      refine G_ret rfl rfl ?_
      exact G_ret rfl rfl h
theorem sb_X6_shares_6 (n : Nat) (s : Nat → Nat → Int) (Q : List Vl → Sto → Prop) (x1 : Int) (x2 : Int) (hR : refs s)
    (h : (x2 = 0 → (s 3 9 ≠ 0 → (x1 ≠ 0 → (0 ≤ s 3 9 ∧ s 3 9 ≤ 6) ∧ (Q [(1, xrem (itr (smF (s 8)) 0 (s 3 9).toNat) (s 3 9))] (n, s))) ∧ (x1 = 0 → (0 ≤ s 3 9 ∧ s 3 9 ≤ 6) ∧ (Q [(1, xdiv (itr (smF (s 8)) 0 (s 3 9).toNat) (s 3 9))] (n, s)))) ∧ (s 3 9 = 0 → Q [(1, 0)] (n, s))) ∧ (x2 ≠ 0 → (wr (-x2) ≤ 0 → Q [(1, x2)] (n, s)) ∧ (0 < wr (-x2) → (7 ≤ wr (-x2) → Q [(1, x2)] (n, s)) ∧ (wr (-x2) < 7 → (0 ≤ wr (-x2) ∧ wr (-x2) < 7) ∧ (Q [(1, x2)] (n, upS s 119 ((wr (-x2)).toNat) (wr ((s 119 ((wr (-x2)).toNat)) + 1)))))))) :
    G 2 120 125 6 [(3, 2), (1, x1), (1, x2)] [] (n, s) Q := by
  refine G_go rfl rfl ?_
  refine G_eq rfl rfl (fun c1 => ?_) (fun c1 => ?_)
  · have h := h.1 c1
    refine G_go rfl rfl ?_
    refine G_rf rfl rfl (by decide) (hR 2 0 3 rfl) ?_
    refine G_rd rfl rfl (by decide) ?_
    refine G_ne rfl rfl (fun c2 => ?_) (fun c2 => ?_)
    · have h := h.1 c2
      refine G_go rfl rfl ?_
      refine G_ne rfl rfl (fun c3 => ?_) (fun c3 => ?_)
      · have h := h.1 c3
        refine G_go rfl rfl ?_
        refine G_rf rfl rfl (by decide) (hR 2 0 3 rfl) ?_
        refine G_call rfl rfl ?_
        refine G_go rfl rfl ?_
        refine G_go rfl rfl ?_
        refine G_rf rfl rfl (by decide) (hR 3 4 8 rfl) ?_
        refine G_call rfl rfl ?_
        obtain ⟨g4, h⟩ := h
        refine c_X5_sumOf_3_8 n _ _ hR g4 ?_
        refine G_ret rfl rfl ?_
        refine G_go rfl rfl ?_
        refine G_rf rfl rfl (by decide) (hR 2 0 3 rfl) ?_
        refine G_rd rfl rfl (by decide) ?_
        refine G_irem rfl c2 ?_
        exact G_ret rfl rfl h
      · have h := h.2 c3
        refine G_go rfl rfl ?_
        refine G_rf rfl rfl (by decide) (hR 2 0 3 rfl) ?_
        refine G_call rfl rfl ?_
        refine G_go rfl rfl ?_
        refine G_go rfl rfl ?_
        refine G_rf rfl rfl (by decide) (hR 3 4 8 rfl) ?_
        refine G_call rfl rfl ?_
        obtain ⟨g5, h⟩ := h
        refine c_X5_sumOf_3_8 n _ _ hR g5 ?_
        refine G_ret rfl rfl ?_
        refine G_go rfl rfl ?_
        refine G_rf rfl rfl (by decide) (hR 2 0 3 rfl) ?_
        refine G_rd rfl rfl (by decide) ?_
        refine G_idiv rfl c2 ?_
        refine G_go rfl rfl ?_
        exact G_ret rfl rfl h
    · have h := h.2 c2
      refine G_go rfl rfl ?_
      exact G_ret rfl rfl h
  · have h := h.2 c1
    refine G_go rfl rfl ?_
    refine G_go rfl rfl ?_
    refine G_call rfl rfl ?_
    refine G_go rfl rfl ?_
    refine G_go rfl rfl ?_
    refine G_go rfl rfl ?_
    refine G_go rfl rfl ?_
    refine G_le rfl rfl (fun c6 => ?_) (fun c6 => ?_)
    · have h := h.1 c6
      refine G_go rfl rfl ?_
      refine G_ret rfl rfl ?_
      exact G_ret rfl rfl h
    · have h := h.2 c6
      refine G_go rfl rfl ?_
      refine G_go rfl rfl ?_
      refine G_rf rfl rfl (by decide) (hR 2 7 119 rfl) ?_
      refine G_go rfl rfl ?_
      refine G_ge rfl rfl (fun c7 => ?_) (fun c7 => ?_)
      · have h := h.1 c7
        refine G_go rfl rfl ?_
        refine G_ret rfl rfl ?_
        exact G_ret rfl rfl h
      · have h := h.2 c7
        refine G_go rfl rfl ?_
        refine G_rf rfl rfl (by decide) (hR 2 7 119 rfl) ?_
        refine G_go rfl rfl ?_
        refine G_go rfl rfl ?_
        obtain ⟨g8, h⟩ := h
        refine G_ir (n := 7) rfl rfl (by decide) (by decide) g8 ?_
        refine G_go rfl rfl ?_
        refine G_go rfl rfl ?_
        refine G_iw (n := 7) rfl rfl (by decide) (by decide) g8 ?_
        have hR := refs_up (a := 119) (k := (wr (-x2)).toNat) (x := wr ((s 119 ((wr (-x2)).toNat)) + 1)) hR rfl
        refine G_go rfl rfl ?_
        refine G_ret rfl rfl ?_
        exact G_ret rfl rfl h
theorem sb_X7_shares_0 (n : Nat) (s : Nat → Nat → Int) (Q : List Vl → Sto → Prop) (a0 : Int) (hR : refs s)
    (h : (a0 < 0 → Q [(1, (-2))] (n, upS (upS s 120 10 0) 129 2 (wr ((s 129 2) + 1)))) ∧ (a0 ≥ 0 → (a0 > 1 → Q [(1, (-2))] (n, upS (upS s 120 10 0) 129 2 (wr ((s 129 2) + 1)))) ∧ (a0 ≤ 1 → (s 120 0 ≠ 0 → (a0 ≠ 0 → (0 ≤ (upS s 120 10 0) 120 0 ∧ (upS s 120 10 0) 120 0 ≤ 6) ∧ (Q [(1, xrem (itr (smF ((upS s 120 10 0) 125)) 0 ((upS s 120 10 0) 120 0).toNat) (s 120 0))] (n, upS s 120 10 0))) ∧ (a0 = 0 → (0 ≤ (upS s 120 10 0) 120 0 ∧ (upS s 120 10 0) 120 0 ≤ 6) ∧ (Q [(1, xdiv (itr (smF ((upS s 120 10 0) 125)) 0 ((upS s 120 10 0) 120 0).toNat) (s 120 0))] (n, upS s 120 10 0)))) ∧ (s 120 0 = 0 → Q [(1, 0)] (n, upS s 120 10 0))))) :
    G 120 140 216 0 [(3, 120), (1, a0)] [] (n, s) Q := by
  refine G_go rfl rfl ?_
  refine G_go rfl rfl ?_
  refine G_wr rfl rfl (by decide) ?_
  have hR := refs_up (a := 120) (k := 10) (x := 0) hR rfl
  refine G_go rfl rfl ?_
  refine G_go rfl rfl ?_
  refine G_go rfl rfl ?_
  refine G_go rfl rfl ?_
  refine G_call rfl rfl ?_
  refine G_go rfl rfl ?_
  refine G_go rfl rfl ?_
  refine G_go rfl rfl ?_
  refine G_lt rfl rfl (fun c1 => ?_) (fun c1 => ?_)
  · have c1 := xl_lt c1
    have h := h.1 c1
    refine G_go rfl rfl ?_
    refine G_ret rfl rfl ?_
    refine G_brF rfl rfl rfl ?_
    refine G_go rfl rfl ?_
    refine G_go rfl rfl ?_
    refine G_call rfl rfl ?_
    refine G_go rfl rfl ?_
    refine G_rf rfl rfl (by decide) (hR 120 11 129 rfl) ?_
    refine G_go rfl rfl ?_
    refine G_go rfl rfl ?_
    refine G_go rfl rfl ?_
    refine G_ir (n := 7) rfl rfl (by decide) (by decide) (by decide) ?_
    refine G_go rfl rfl ?_
    refine G_go rfl rfl ?_
    refine G_iw (n := 7) rfl rfl (by decide) (by decide) (by decide) ?_
    have hR := refs_up (a := 129) (k := 2) (x := wr ((s 129 2) + 1)) hR rfl
    refine G_go rfl rfl ?_
    refine G_ret rfl rfl ?_
    exact G_ret rfl rfl h
  · have c1 := xl_ge c1
    have h := h.2 c1
    refine G_go rfl rfl ?_
    refine G_go rfl rfl ?_
    refine G_go rfl rfl ?_
    refine G_gt rfl rfl (fun c2 => ?_) (fun c2 => ?_)
    · have c2 := xl_gt c2
      have h := h.1 c2
      refine G_go rfl rfl ?_
      refine G_ret rfl rfl ?_
      refine G_brF rfl rfl rfl ?_
      refine G_go rfl rfl ?_
      refine G_go rfl rfl ?_
      refine G_call rfl rfl ?_
      refine G_go rfl rfl ?_
      refine G_rf rfl rfl (by decide) (hR 120 11 129 rfl) ?_
      refine G_go rfl rfl ?_
      refine G_go rfl rfl ?_
      refine G_go rfl rfl ?_
      refine G_ir (n := 7) rfl rfl (by decide) (by decide) (by decide) ?_
      refine G_go rfl rfl ?_
      refine G_go rfl rfl ?_
      refine G_iw (n := 7) rfl rfl (by decide) (by decide) (by decide) ?_
      have hR := refs_up (a := 129) (k := 2) (x := wr ((s 129 2) + 1)) hR rfl
      refine G_go rfl rfl ?_
      refine G_ret rfl rfl ?_
      exact G_ret rfl rfl h
    · have c2 := xl_le c2
      have h := h.2 c2
      refine G_go rfl rfl ?_
      refine G_go rfl rfl ?_
      refine G_ret rfl rfl ?_
      refine G_brT rfl rfl rfl ?_
      refine G_go rfl rfl ?_
      refine G_rd rfl rfl (by decide) ?_
      refine G_ne rfl rfl (fun c3 => ?_) (fun c3 => ?_)
      · have h := h.1 c3
        refine G_go rfl rfl ?_
        refine G_ne rfl rfl (fun c4 => ?_) (fun c4 => ?_)
        · have h := h.1 c4
          refine G_go rfl rfl ?_
          refine G_call rfl rfl ?_
          obtain ⟨g5, h⟩ := h
          refine c_X7_allCandles n _ _ hR g5 ?_
          refine G_go rfl rfl ?_
          refine G_rd rfl rfl (by decide) ?_
          refine G_irem rfl c3 ?_
          exact G_ret rfl rfl h
        · have h := h.2 c4
          refine G_go rfl rfl ?_
          refine G_call rfl rfl ?_
          obtain ⟨g6, h⟩ := h
          refine c_X7_allCandles n _ _ hR g6 ?_
          refine G_go rfl rfl ?_
          refine G_rd rfl rfl (by decide) ?_
          refine G_idiv rfl c3 ?_
          refine G_go rfl rfl ?_
          exact G_ret rfl rfl h
      · have h := h.2 c3
        refine G_go rfl rfl ?_
        exact G_ret rfl rfl h
theorem sum_eq {s t : Nat → Nat → Int} (h : REL s t) {a b : Nat} (e : ∀ p : Nat, (p : Int) < t 120 0 → s a p = t b p) : itr (smF (s a)) 0 (s 3 9).toNat = itr (smF (t b)) 0 (t 120 0).toNat := by
  obtain ⟨hn1, hn2, hn3, hn4⟩ := h.np
  rw [hn1]
  refine itr_ext 0 _ (fun k b hk => ?_)
  unfold smF
  rw [e k (by omega)]
theorem op_shares (n : Nat) (s t : Nat → Nat → Int) (h : REL s t) (a0 : Int) : G 2 120 125 0 [(3, 2), (1, a0), (0, 0)] [] (n, s) (fun r s1 => G 120 140 216 0 [(3, 120), (1, a0)] [] (n, t) (Post n r s1)) := by
  obtain ⟨hn1, hn2, hn3, hn4⟩ := h.np
  have e : itr (smF (s 8)) 0 (s 3 9).toNat = itr (smF (t 125)) 0 (t 120 0).toNat := sum_eq h (fun p hp => (h.s p hp).2.2.2.2.1)
  refine sb_X6_shares_0 n s _ a0 h.1 ?_
  repeat' first | with_reducible refine And.intro ?_ ?_ | intro _
  all_goals first | omega | skip
  all_goals refine sb_X7_shares_0 n t _ a0 h.2.1 ?_
  all_goals repeat' first | with_reducible refine And.intro ?_ ?_ | intro _
  all_goals first | omega | exact post_ref h _ (by decide) | exact post_same h rfl | exact hn3.1 | exact hn3.2 | skip
  all_goals refine post_same h ?_
  all_goals rw [e, hn1]
  all_goals rfl
end
