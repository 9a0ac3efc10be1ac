-- ===== PART A: goes FIRST, ahead of the names: the tables' words, and 'selects' of the private methods out of them =====
/-- a private method of a class that the tables say can be made, by its rows of tables_1 -/
def lw_okq (q : MethodName × Nat) : Prop := (q.1.cls ≠ "java/lang/invoke/MethodHandle" ∧ q.1.cls ≠ "java/lang/invoke/VarHandle") ∧ Cond.instantiable q.1.cls q.2 ∈ tables_1 ∧ Cond.privateMethod q.1 ∈ tables_1 ∧ Cond.instanceMethod q.1 ∈ tables_1
theorem lw_p0 : lw_okq (⟨"BlueByTouch", "layPage", "()Z"⟩, 11) := ⟨⟨by decide +kernel, by decide +kernel⟩, List.mem_of_getElem? (i := 17) (by decide +kernel), List.mem_of_getElem? (i := 249) (by decide +kernel), List.mem_of_getElem? (i := 250) (by decide +kernel)⟩
theorem lw_p1 : lw_okq (⟨"BlueByTouch$Page", "readNumbers", "(I)I"⟩, 4) := ⟨⟨by decide +kernel, by decide +kernel⟩, List.mem_of_getElem? (i := 25) (by decide +kernel), List.mem_of_getElem? (i := 261) (by decide +kernel), List.mem_of_getElem? (i := 262) (by decide +kernel)⟩
theorem lw_p2 : lw_okq (⟨"BlueByTouch$Page", "figuresAt", "(I)I"⟩, 4) := ⟨⟨by decide +kernel, by decide +kernel⟩, List.mem_of_getElem? (i := 25) (by decide +kernel), List.mem_of_getElem? (i := 265) (by decide +kernel), List.mem_of_getElem? (i := 266) (by decide +kernel)⟩
theorem lw_p3 : lw_okq (⟨"BlueByTouch$Page", "letterAt", "(I)I"⟩, 4) := ⟨⟨by decide +kernel, by decide +kernel⟩, List.mem_of_getElem? (i := 25) (by decide +kernel), List.mem_of_getElem? (i := 269) (by decide +kernel), List.mem_of_getElem? (i := 270) (by decide +kernel)⟩
theorem lw_p4 : lw_okq (⟨"BlueByTouch$Page", "valueOf", "(II)I"⟩, 4) := ⟨⟨by decide +kernel, by decide +kernel⟩, List.mem_of_getElem? (i := 25) (by decide +kernel), List.mem_of_getElem? (i := 280) (by decide +kernel), List.mem_of_getElem? (i := 281) (by decide +kernel)⟩
theorem lw_p5 : lw_okq (⟨"BlueByTouch$House", "addItem", "(II)Z"⟩, 11) := ⟨⟨by decide +kernel, by decide +kernel⟩, List.mem_of_getElem? (i := 55) (by decide +kernel), List.mem_of_getElem? (i := 289) (by decide +kernel), List.mem_of_getElem? (i := 290) (by decide +kernel)⟩
theorem lw_p6 : lw_okq (⟨"BlueByTouch$House", "addTouch", "(III)Z"⟩, 11) := ⟨⟨by decide +kernel, by decide +kernel⟩, List.mem_of_getElem? (i := 55) (by decide +kernel), List.mem_of_getElem? (i := 297) (by decide +kernel), List.mem_of_getElem? (i := 298) (by decide +kernel)⟩
theorem lw_p7 : lw_okq (⟨"BlueByTouch$House", "addWashing", "(II)Z"⟩, 11) := ⟨⟨by decide +kernel, by decide +kernel⟩, List.mem_of_getElem? (i := 55) (by decide +kernel), List.mem_of_getElem? (i := 308) (by decide +kernel), List.mem_of_getElem? (i := 309) (by decide +kernel)⟩
theorem lw_p8 : lw_okq (⟨"BlueByTouch$House", "setSupper", "(I)Z"⟩, 11) := ⟨⟨by decide +kernel, by decide +kernel⟩, List.mem_of_getElem? (i := 55) (by decide +kernel), List.mem_of_getElem? (i := 316) (by decide +kernel), List.mem_of_getElem? (i := 317) (by decide +kernel)⟩
theorem lw_p9 : lw_okq (⟨"BlueByTouch$Pile", "dropLowest", "()V"⟩, 2) := ⟨⟨by decide +kernel, by decide +kernel⟩, List.mem_of_getElem? (i := 143) (by decide +kernel), List.mem_of_getElem? (i := 438) (by decide +kernel), List.mem_of_getElem? (i := 439) (by decide +kernel)⟩
theorem lw_p10 : lw_okq (⟨"BlueByTouch$Stand", "goHour", "(LBlueByTouch$House;)V"⟩, 4) := ⟨⟨by decide +kernel, by decide +kernel⟩, List.mem_of_getElem? (i := 117) (by decide +kernel), List.mem_of_getElem? (i := 450) (by decide +kernel), List.mem_of_getElem? (i := 451) (by decide +kernel)⟩
theorem lw_p11 : lw_okq (⟨"BlueByTouch$Stand", "darken", "(III)I"⟩, 4) := ⟨⟨by decide +kernel, by decide +kernel⟩, List.mem_of_getElem? (i := 117) (by decide +kernel), List.mem_of_getElem? (i := 464) (by decide +kernel), List.mem_of_getElem? (i := 465) (by decide +kernel)⟩
theorem lw_p12 : lw_okq (⟨"BlueByTouch$Stand", "lighten", "(II)V"⟩, 4) := ⟨⟨by decide +kernel, by decide +kernel⟩, List.mem_of_getElem? (i := 117) (by decide +kernel), List.mem_of_getElem? (i := 477) (by decide +kernel), List.mem_of_getElem? (i := 478) (by decide +kernel)⟩
theorem lw_p13 : lw_okq (⟨"BlueByTouch$Stand", "fade", "(LBlueByTouch$House;)V"⟩, 4) := ⟨⟨by decide +kernel, by decide +kernel⟩, List.mem_of_getElem? (i := 117) (by decide +kernel), List.mem_of_getElem? (i := 481) (by decide +kernel), List.mem_of_getElem? (i := 482) (by decide +kernel)⟩
theorem lw_p14 : lw_okq (⟨"BlueByTouch", "shortestRoute", "(II)I"⟩, 11) := ⟨⟨by decide +kernel, by decide +kernel⟩, List.mem_of_getElem? (i := 17) (by decide +kernel), List.mem_of_getElem? (i := 531) (by decide +kernel), List.mem_of_getElem? (i := 532) (by decide +kernel)⟩
theorem lw_p15 : lw_okq (⟨"BlueByTouch", "looksLike", "(II)Z"⟩, 11) := ⟨⟨by decide +kernel, by decide +kernel⟩, List.mem_of_getElem? (i := 17) (by decide +kernel), List.mem_of_getElem? (i := 555) (by decide +kernel), List.mem_of_getElem? (i := 556) (by decide +kernel)⟩
def lw_privs_1 : List (MethodName × Nat) := [(⟨"BlueByTouch", "layPage", "()Z"⟩, 11), (⟨"BlueByTouch$Page", "readNumbers", "(I)I"⟩, 4), (⟨"BlueByTouch$Page", "figuresAt", "(I)I"⟩, 4), (⟨"BlueByTouch$Page", "letterAt", "(I)I"⟩, 4), (⟨"BlueByTouch$Page", "valueOf", "(II)I"⟩, 4), (⟨"BlueByTouch$House", "addItem", "(II)Z"⟩, 11), (⟨"BlueByTouch$House", "addTouch", "(III)Z"⟩, 11), (⟨"BlueByTouch$House", "addWashing", "(II)Z"⟩, 11), (⟨"BlueByTouch$House", "setSupper", "(I)Z"⟩, 11), (⟨"BlueByTouch$Pile", "dropLowest", "()V"⟩, 2), (⟨"BlueByTouch$Stand", "goHour", "(LBlueByTouch$House;)V"⟩, 4), (⟨"BlueByTouch$Stand", "darken", "(III)I"⟩, 4), (⟨"BlueByTouch$Stand", "lighten", "(II)V"⟩, 4), (⟨"BlueByTouch$Stand", "fade", "(LBlueByTouch$House;)V"⟩, 4), (⟨"BlueByTouch", "shortestRoute", "(II)I"⟩, 11), (⟨"BlueByTouch", "looksLike", "(II)Z"⟩, 11)]
theorem lw_r1 : ∀ q ∈ lw_privs_1, lw_okq q := List.forall_mem_cons.mpr ⟨lw_p0, List.forall_mem_cons.mpr ⟨lw_p1, List.forall_mem_cons.mpr ⟨lw_p2, List.forall_mem_cons.mpr ⟨lw_p3, List.forall_mem_cons.mpr ⟨lw_p4, List.forall_mem_cons.mpr ⟨lw_p5, List.forall_mem_cons.mpr ⟨lw_p6, List.forall_mem_cons.mpr ⟨lw_p7, List.forall_mem_cons.mpr ⟨lw_p8, List.forall_mem_cons.mpr ⟨lw_p9, List.forall_mem_cons.mpr ⟨lw_p10, List.forall_mem_cons.mpr ⟨lw_p11, List.forall_mem_cons.mpr ⟨lw_p12, List.forall_mem_cons.mpr ⟨lw_p13, List.forall_mem_cons.mpr ⟨lw_p14, List.forall_mem_cons.mpr ⟨lw_p15, fun _ h => absurd h List.not_mem_nil⟩⟩⟩⟩⟩⟩⟩⟩⟩⟩⟩⟩⟩⟩⟩⟩
theorem lw_p16 : lw_okq (⟨"BlueByTouch", "link", "(II)V"⟩, 11) := ⟨⟨by decide +kernel, by decide +kernel⟩, List.mem_of_getElem? (i := 17) (by decide +kernel), List.mem_of_getElem? (i := 619) (by decide +kernel), List.mem_of_getElem? (i := 620) (by decide +kernel)⟩
theorem lw_p17 : lw_okq (⟨"BlueByTouch", "dogTouch", "(I)V"⟩, 11) := ⟨⟨by decide +kernel, by decide +kernel⟩, List.mem_of_getElem? (i := 17) (by decide +kernel), List.mem_of_getElem? (i := 634) (by decide +kernel), List.mem_of_getElem? (i := 635) (by decide +kernel)⟩
theorem lw_p18 : lw_okq (⟨"BlueByTouchModel", "begins", "()V"⟩, 15) := ⟨⟨by decide +kernel, by decide +kernel⟩, List.mem_of_getElem? (i := 660) (by decide +kernel), List.mem_of_getElem? (i := 666) (by decide +kernel), List.mem_of_getElem? (i := 667) (by decide +kernel)⟩
theorem lw_p19 : lw_okq (⟨"BlueByTouchModel", "itemOf", "(II)V"⟩, 15) := ⟨⟨by decide +kernel, by decide +kernel⟩, List.mem_of_getElem? (i := 660) (by decide +kernel), List.mem_of_getElem? (i := 670) (by decide +kernel), List.mem_of_getElem? (i := 671) (by decide +kernel)⟩
theorem lw_p20 : lw_okq (⟨"BlueByTouchModel", "touchOf", "(III)V"⟩, 15) := ⟨⟨by decide +kernel, by decide +kernel⟩, List.mem_of_getElem? (i := 660) (by decide +kernel), List.mem_of_getElem? (i := 674) (by decide +kernel), List.mem_of_getElem? (i := 675) (by decide +kernel)⟩
theorem lw_p21 : lw_okq (⟨"BlueByTouchModel", "washOf", "(II)V"⟩, 15) := ⟨⟨by decide +kernel, by decide +kernel⟩, List.mem_of_getElem? (i := 660) (by decide +kernel), List.mem_of_getElem? (i := 678) (by decide +kernel), List.mem_of_getElem? (i := 679) (by decide +kernel)⟩
theorem lw_p22 : lw_okq (⟨"BlueByTouchModel", "lays", "()V"⟩, 15) := ⟨⟨by decide +kernel, by decide +kernel⟩, List.mem_of_getElem? (i := 660) (by decide +kernel), List.mem_of_getElem? (i := 682) (by decide +kernel), List.mem_of_getElem? (i := 683) (by decide +kernel)⟩
theorem lw_p23 : lw_okq (⟨"BlueByTouchModel", "reads", "()I"⟩, 15) := ⟨⟨by decide +kernel, by decide +kernel⟩, List.mem_of_getElem? (i := 660) (by decide +kernel), List.mem_of_getElem? (i := 747) (by decide +kernel), List.mem_of_getElem? (i := 748) (by decide +kernel)⟩
theorem lw_p24 : lw_okq (⟨"BlueByTouchModel", "readsItem", "(I)Z"⟩, 15) := ⟨⟨by decide +kernel, by decide +kernel⟩, List.mem_of_getElem? (i := 660) (by decide +kernel), List.mem_of_getElem? (i := 751) (by decide +kernel), List.mem_of_getElem? (i := 752) (by decide +kernel)⟩
theorem lw_p25 : lw_okq (⟨"BlueByTouchModel", "number", "(II)I"⟩, 15) := ⟨⟨by decide +kernel, by decide +kernel⟩, List.mem_of_getElem? (i := 660) (by decide +kernel), List.mem_of_getElem? (i := 755) (by decide +kernel), List.mem_of_getElem? (i := 756) (by decide +kernel)⟩
theorem lw_p26 : lw_okq (⟨"BlueByTouchModel", "letterAt", "(I)I"⟩, 15) := ⟨⟨by decide +kernel, by decide +kernel⟩, List.mem_of_getElem? (i := 660) (by decide +kernel), List.mem_of_getElem? (i := 759) (by decide +kernel), List.mem_of_getElem? (i := 760) (by decide +kernel)⟩
theorem lw_p27 : lw_okq (⟨"BlueByTouchModel", "isItem", "(I)Z"⟩, 15) := ⟨⟨by decide +kernel, by decide +kernel⟩, List.mem_of_getElem? (i := 660) (by decide +kernel), List.mem_of_getElem? (i := 777) (by decide +kernel), List.mem_of_getElem? (i := 778) (by decide +kernel)⟩
theorem lw_p28 : lw_okq (⟨"BlueByTouchModel", "seen", "(I)I"⟩, 15) := ⟨⟨by decide +kernel, by decide +kernel⟩, List.mem_of_getElem? (i := 660) (by decide +kernel), List.mem_of_getElem? (i := 781) (by decide +kernel), List.mem_of_getElem? (i := 782) (by decide +kernel)⟩
theorem lw_p29 : lw_okq (⟨"BlueByTouchModel", "isPerson", "(I)Z"⟩, 15) := ⟨⟨by decide +kernel, by decide +kernel⟩, List.mem_of_getElem? (i := 660) (by decide +kernel), List.mem_of_getElem? (i := 785) (by decide +kernel), List.mem_of_getElem? (i := 786) (by decide +kernel)⟩
theorem lw_p30 : lw_okq (⟨"BlueByTouchModel", "keeps", "()V"⟩, 15) := ⟨⟨by decide +kernel, by decide +kernel⟩, List.mem_of_getElem? (i := 660) (by decide +kernel), List.mem_of_getElem? (i := 797) (by decide +kernel), List.mem_of_getElem? (i := 798) (by decide +kernel)⟩
theorem lw_p31 : lw_okq (⟨"BlueByTouchModel", "passes", "()V"⟩, 15) := ⟨⟨by decide +kernel, by decide +kernel⟩, List.mem_of_getElem? (i := 660) (by decide +kernel), List.mem_of_getElem? (i := 801) (by decide +kernel), List.mem_of_getElem? (i := 802) (by decide +kernel)⟩
def lw_privs_2 : List (MethodName × Nat) := [(⟨"BlueByTouch", "link", "(II)V"⟩, 11), (⟨"BlueByTouch", "dogTouch", "(I)V"⟩, 11), (⟨"BlueByTouchModel", "begins", "()V"⟩, 15), (⟨"BlueByTouchModel", "itemOf", "(II)V"⟩, 15), (⟨"BlueByTouchModel", "touchOf", "(III)V"⟩, 15), (⟨"BlueByTouchModel", "washOf", "(II)V"⟩, 15), (⟨"BlueByTouchModel", "lays", "()V"⟩, 15), (⟨"BlueByTouchModel", "reads", "()I"⟩, 15), (⟨"BlueByTouchModel", "readsItem", "(I)Z"⟩, 15), (⟨"BlueByTouchModel", "number", "(II)I"⟩, 15), (⟨"BlueByTouchModel", "letterAt", "(I)I"⟩, 15), (⟨"BlueByTouchModel", "isItem", "(I)Z"⟩, 15), (⟨"BlueByTouchModel", "seen", "(I)I"⟩, 15), (⟨"BlueByTouchModel", "isPerson", "(I)Z"⟩, 15), (⟨"BlueByTouchModel", "keeps", "()V"⟩, 15), (⟨"BlueByTouchModel", "passes", "()V"⟩, 15)]
theorem lw_r2 : ∀ q ∈ lw_privs_2, lw_okq q := List.forall_mem_cons.mpr ⟨lw_p16, List.forall_mem_cons.mpr ⟨lw_p17, List.forall_mem_cons.mpr ⟨lw_p18, List.forall_mem_cons.mpr ⟨lw_p19, List.forall_mem_cons.mpr ⟨lw_p20, List.forall_mem_cons.mpr ⟨lw_p21, List.forall_mem_cons.mpr ⟨lw_p22, List.forall_mem_cons.mpr ⟨lw_p23, List.forall_mem_cons.mpr ⟨lw_p24, List.forall_mem_cons.mpr ⟨lw_p25, List.forall_mem_cons.mpr ⟨lw_p26, List.forall_mem_cons.mpr ⟨lw_p27, List.forall_mem_cons.mpr ⟨lw_p28, List.forall_mem_cons.mpr ⟨lw_p29, List.forall_mem_cons.mpr ⟨lw_p30, List.forall_mem_cons.mpr ⟨lw_p31, fun _ h => absurd h List.not_mem_nil⟩⟩⟩⟩⟩⟩⟩⟩⟩⟩⟩⟩⟩⟩⟩⟩
theorem lw_p32 : lw_okq (⟨"BlueByTouchModel", "touches", "(II)I"⟩, 15) := ⟨⟨by decide +kernel, by decide +kernel⟩, List.mem_of_getElem? (i := 660) (by decide +kernel), List.mem_of_getElem? (i := 805) (by decide +kernel), List.mem_of_getElem? (i := 806) (by decide +kernel)⟩
theorem lw_p33 : lw_okq (⟨"BlueByTouchModel", "gives", "(I)I"⟩, 15) := ⟨⟨by decide +kernel, by decide +kernel⟩, List.mem_of_getElem? (i := 660) (by decide +kernel), List.mem_of_getElem? (i := 809) (by decide +kernel), List.mem_of_getElem? (i := 810) (by decide +kernel)⟩
theorem lw_p34 : lw_okq (⟨"BlueByTouchModel", "gets", "(II)I"⟩, 15) := ⟨⟨by decide +kernel, by decide +kernel⟩, List.mem_of_getElem? (i := 660) (by decide +kernel), List.mem_of_getElem? (i := 813) (by decide +kernel), List.mem_of_getElem? (i := 814) (by decide +kernel)⟩
theorem lw_p35 : lw_okq (⟨"BlueByTouchModel", "washesBy", "(I)I"⟩, 15) := ⟨⟨by decide +kernel, by decide +kernel⟩, List.mem_of_getElem? (i := 660) (by decide +kernel), List.mem_of_getElem? (i := 817) (by decide +kernel), List.mem_of_getElem? (i := 818) (by decide +kernel)⟩
theorem lw_p36 : lw_okq (⟨"BlueByTouchModel", "lightens", "(II)V"⟩, 15) := ⟨⟨by decide +kernel, by decide +kernel⟩, List.mem_of_getElem? (i := 660) (by decide +kernel), List.mem_of_getElem? (i := 821) (by decide +kernel), List.mem_of_getElem? (i := 822) (by decide +kernel)⟩
theorem lw_p37 : lw_okq (⟨"BlueByTouchModel", "holds", "()V"⟩, 15) := ⟨⟨by decide +kernel, by decide +kernel⟩, List.mem_of_getElem? (i := 660) (by decide +kernel), List.mem_of_getElem? (i := 848) (by decide +kernel), List.mem_of_getElem? (i := 849) (by decide +kernel)⟩
theorem lw_p38 : lw_okq (⟨"BlueByTouchModel", "lets", "()V"⟩, 15) := ⟨⟨by decide +kernel, by decide +kernel⟩, List.mem_of_getElem? (i := 660) (by decide +kernel), List.mem_of_getElem? (i := 852) (by decide +kernel), List.mem_of_getElem? (i := 853) (by decide +kernel)⟩
theorem lw_p39 : lw_okq (⟨"BlueByTouchModel", "isSo", "()Z"⟩, 15) := ⟨⟨by decide +kernel, by decide +kernel⟩, List.mem_of_getElem? (i := 660) (by decide +kernel), List.mem_of_getElem? (i := 880) (by decide +kernel), List.mem_of_getElem? (i := 881) (by decide +kernel)⟩
theorem lw_p40 : lw_okq (⟨"BlueByTouchModel", "asLaid", "()V"⟩, 15) := ⟨⟨by decide +kernel, by decide +kernel⟩, List.mem_of_getElem? (i := 660) (by decide +kernel), List.mem_of_getElem? (i := 888) (by decide +kernel), List.mem_of_getElem? (i := 889) (by decide +kernel)⟩
theorem lw_p41 : lw_okq (⟨"BlueByTouchModel", "leads", "(II)V"⟩, 15) := ⟨⟨by decide +kernel, by decide +kernel⟩, List.mem_of_getElem? (i := 660) (by decide +kernel), List.mem_of_getElem? (i := 900) (by decide +kernel), List.mem_of_getElem? (i := 901) (by decide +kernel)⟩
theorem lw_p42 : lw_okq (⟨"BlueByTouchModel", "shaded", "()I"⟩, 15) := ⟨⟨by decide +kernel, by decide +kernel⟩, List.mem_of_getElem? (i := 660) (by decide +kernel), List.mem_of_getElem? (i := 915) (by decide +kernel), List.mem_of_getElem? (i := 916) (by decide +kernel)⟩
def lw_privs_3 : List (MethodName × Nat) := [(⟨"BlueByTouchModel", "touches", "(II)I"⟩, 15), (⟨"BlueByTouchModel", "gives", "(I)I"⟩, 15), (⟨"BlueByTouchModel", "gets", "(II)I"⟩, 15), (⟨"BlueByTouchModel", "washesBy", "(I)I"⟩, 15), (⟨"BlueByTouchModel", "lightens", "(II)V"⟩, 15), (⟨"BlueByTouchModel", "holds", "()V"⟩, 15), (⟨"BlueByTouchModel", "lets", "()V"⟩, 15), (⟨"BlueByTouchModel", "isSo", "()Z"⟩, 15), (⟨"BlueByTouchModel", "asLaid", "()V"⟩, 15), (⟨"BlueByTouchModel", "leads", "(II)V"⟩, 15), (⟨"BlueByTouchModel", "shaded", "()I"⟩, 15)]
theorem lw_r3 : ∀ q ∈ lw_privs_3, lw_okq q := List.forall_mem_cons.mpr ⟨lw_p32, List.forall_mem_cons.mpr ⟨lw_p33, List.forall_mem_cons.mpr ⟨lw_p34, List.forall_mem_cons.mpr ⟨lw_p35, List.forall_mem_cons.mpr ⟨lw_p36, List.forall_mem_cons.mpr ⟨lw_p37, List.forall_mem_cons.mpr ⟨lw_p38, List.forall_mem_cons.mpr ⟨lw_p39, List.forall_mem_cons.mpr ⟨lw_p40, List.forall_mem_cons.mpr ⟨lw_p41, List.forall_mem_cons.mpr ⟨lw_p42, fun _ h => absurd h List.not_mem_nil⟩⟩⟩⟩⟩⟩⟩⟩⟩⟩⟩
def lw_privs : List (MethodName × Nat) := lw_privs_1 ++ (lw_privs_2 ++ (lw_privs_3))
def lw_tbl : List Cond := k2_sels lw_privs ++ tables_1
theorem lw_privs_ok : ∀ q ∈ lw_privs, lw_okq q := by
  show ∀ q ∈ lw_privs_1 ++ (lw_privs_2 ++ (lw_privs_3)), lw_okq q
  exact List.forall_mem_append.mpr ⟨lw_r1, List.forall_mem_append.mpr ⟨lw_r2, lw_r3⟩⟩

/-! ===== BEGIN words of one list among another's, by their places ===== -/
theorem goodIn_r {big : List Cond} (ws : List Cond) (ps : List Nat) (hp : ws = ps.filterMap (fun i => big[i]?)) (h : ws.all goodWord = true) : GoodIn big ws := by
  intro w hw
  have h1 := List.all_eq_true.mp h w hw
  rw [hp] at hw
  obtain ⟨i, -, hi⟩ := List.mem_filterMap.mp hw
  have hm : w ∈ big := by first | exact List.mem_of_getElem? hi | exact List.getElem?_mem hi
  exact ⟨hm, good_of_word h1⟩
theorem goodIn_app {big a b : List Cond} (ha : GoodIn big a) (hb : GoodIn big b) : GoodIn big (a ++ b) := fun w h => (List.mem_append.mp h).elim (ha w) (hb w)
theorem goodIn_ca {big a b : List Cond} {c : Cond} (ha : GoodIn big (c :: a)) (hb : GoodIn big b) : GoodIn big (c :: (a ++ b)) := fun w h => (List.mem_cons.mp h).elim (fun e => ha w (List.mem_cons.mpr (Or.inl e))) (fun h => (List.mem_append.mp h).elim (fun h => ha w (List.mem_cons.mpr (Or.inr h))) (hb w))
theorem goodIn_sub {big ws : List Cond} (hm : ∀ w ∈ ws, w ∈ big) (h : ws.all goodWord = true) : GoodIn big ws := fun w hw => ⟨hm w hw, good_of_word (List.all_eq_true.mp h w hw)⟩
/-! ===== END ===== -/

/-! ===== BEGIN printed: names, fields, word lists, decode rows ===== -/
def RX0 : String := "BlueByTouch$Clues"
def TX0 : u_T := fun k => match k with
  | 0 => ("BlueByTouch$Clues", "items", "LBlueByTouch$Row;", true)
  | 1 => ("BlueByTouch$Clues", "shades", "LBlueByTouch$Row;", true)
  | _ => ("BlueByTouch$Clues", "size", "I", false)
def tyX0 : Nat → FieldType := fun k => match k with
  | 0 => .object "BlueByTouch$Row"
  | 1 => .object "BlueByTouch$Row"
  | _ => .int
abbrev wsX00 : List Cond := u_ws RX0 TX0 3
theorem nmX0 : ∀ a, a < 3 → ∀ b, b < 3 → a ≠ b → (TX0 a).2.1 ≠ (TX0 b).2.1 := by decide +kernel
theorem tyX0_ok : ∀ k, k < 3 → parseFieldDescriptor (TX0 k).2.2.1 = some (tyX0 k) := by decide +kernel
abbrev cX0_init : ByteArray := prog_2_method_1_code
def yX0_init : MethodName := ⟨RX0, "<init>", "()V"⟩
abbrev cX0_size : ByteArray := prog_2_method_2_code
def yX0_size : MethodName := ⟨RX0, "size", "()I"⟩
abbrev cX0_clear : ByteArray := prog_2_method_3_code
def yX0_clear : MethodName := ⟨RX0, "clear", "()V"⟩
abbrev cX0_add : ByteArray := prog_2_method_4_code
def yX0_add : MethodName := ⟨RX0, "add", "(II)Z"⟩
abbrev cX0_hold : ByteArray := prog_2_method_5_code
def yX0_hold : MethodName := ⟨RX0, "hold", "(LBlueByTouch$Stand;)Z"⟩
def RX1 : String := "BlueByTouch$House"
def TX1 : u_T := fun k => match k with
  | 0 => ("BlueByTouch$House", "kinds", "LBlueByTouch$Row;", true)
  | 1 => ("BlueByTouch$House", "shades", "LBlueByTouch$Row;", true)
  | 2 => ("BlueByTouch$House", "touchHours", "LBlueByTouch$Row;", true)
  | 3 => ("BlueByTouch$House", "touchFirst", "LBlueByTouch$Row;", true)
  | 4 => ("BlueByTouch$House", "touchSecond", "LBlueByTouch$Row;", true)
  | 5 => ("BlueByTouch$House", "washHours", "LBlueByTouch$Row;", true)
  | 6 => ("BlueByTouch$House", "washWho", "LBlueByTouch$Row;", true)
  | 7 => ("BlueByTouch$House", "items", "I", false)
  | 8 => ("BlueByTouch$House", "touches", "I", false)
  | 9 => ("BlueByTouch$House", "washings", "I", false)
  | _ => ("BlueByTouch$House", "supper", "I", false)
def tyX1 : Nat → FieldType := fun k => match k with
  | 0 => .object "BlueByTouch$Row"
  | 1 => .object "BlueByTouch$Row"
  | 2 => .object "BlueByTouch$Row"
  | 3 => .object "BlueByTouch$Row"
  | 4 => .object "BlueByTouch$Row"
  | 5 => .object "BlueByTouch$Row"
  | 6 => .object "BlueByTouch$Row"
  | 7 => .int
  | 8 => .int
  | 9 => .int
  | _ => .int
abbrev wsX10 : List Cond := u_ws RX1 TX1 11
theorem nmX1 : ∀ a, a < 11 → ∀ b, b < 11 → a ≠ b → (TX1 a).2.1 ≠ (TX1 b).2.1 := by decide +kernel
theorem tyX1_ok : ∀ k, k < 11 → parseFieldDescriptor (TX1 k).2.2.1 = some (tyX1 k) := by decide +kernel
abbrev cX1_init : ByteArray := prog_3_method_1_code
def yX1_init : MethodName := ⟨RX1, "<init>", "()V"⟩
abbrev cX1_clear : ByteArray := prog_3_method_2_code
def yX1_clear : MethodName := ⟨RX1, "clear", "()V"⟩
abbrev cX1_has : ByteArray := prog_3_method_3_code
def yX1_has : MethodName := ⟨RX1, "has", "(I)Z"⟩
abbrev cX1_hasPerson : ByteArray := prog_3_method_4_code
def yX1_hasPerson : MethodName := ⟨RX1, "hasPerson", "(I)Z"⟩
abbrev cX1_people : ByteArray := prog_3_method_5_code
def yX1_people : MethodName := ⟨RX1, "people", "()I"⟩
abbrev cX1_lighterByWashing : ByteArray := prog_3_method_6_code
def yX1_lighterByWashing : MethodName := ⟨RX1, "lighterByWashing", "(I)I"⟩
abbrev cX1_add : ByteArray := prog_3_method_7_code
def yX1_add : MethodName := ⟨RX1, "add", "(IILBlueByTouch$Row;)Z"⟩
abbrev cX1_addItem : ByteArray := prog_3_method_8_code
def yX1_addItem : MethodName := ⟨RX1, "addItem", "(II)Z"⟩
abbrev cX1_addTouch : ByteArray := prog_3_method_9_code
def yX1_addTouch : MethodName := ⟨RX1, "addTouch", "(III)Z"⟩
abbrev cX1_addWashing : ByteArray := prog_3_method_10_code
def yX1_addWashing : MethodName := ⟨RX1, "addWashing", "(II)Z"⟩
abbrev cX1_setSupper : ByteArray := prog_3_method_11_code
def yX1_setSupper : MethodName := ⟨RX1, "setSupper", "(I)Z"⟩
def RX2 : String := "BlueByTouch$Page"
def TX2 : u_T := fun k => match k with
  | 0 => ("BlueByTouch$Page", "letters", "LBlueByTouch$Row;", true)
  | 1 => ("BlueByTouch$Page", "numbers", "LBlueByTouch$Row;", true)
  | 2 => ("BlueByTouch$Page", "length", "I", false)
  | _ => ("BlueByTouch$Page", "found", "I", false)
def tyX2 : Nat → FieldType := fun k => match k with
  | 0 => .object "BlueByTouch$Row"
  | 1 => .object "BlueByTouch$Row"
  | 2 => .int
  | _ => .int
abbrev wsX20 : List Cond := u_ws RX2 TX2 4
theorem nmX2 : ∀ a, a < 4 → ∀ b, b < 4 → a ≠ b → (TX2 a).2.1 ≠ (TX2 b).2.1 := by decide +kernel
theorem tyX2_ok : ∀ k, k < 4 → parseFieldDescriptor (TX2 k).2.2.1 = some (tyX2 k) := by decide +kernel
abbrev cX2_init : ByteArray := prog_4_method_1_code
def yX2_init : MethodName := ⟨RX2, "<init>", "()V"⟩
abbrev cX2_length : ByteArray := prog_4_method_2_code
def yX2_length : MethodName := ⟨RX2, "length", "()I"⟩
abbrev cX2_add : ByteArray := prog_4_method_3_code
def yX2_add : MethodName := ⟨RX2, "add", "(I)Z"⟩
abbrev cX2_clear : ByteArray := prog_4_method_4_code
def yX2_clear : MethodName := ⟨RX2, "clear", "()V"⟩
abbrev cX2_readInto : ByteArray := prog_4_method_5_code
def yX2_readInto : MethodName := ⟨RX2, "readInto", "(LBlueByTouch$House;)I"⟩
abbrev cX2_readNumbers : ByteArray := prog_4_method_6_code
def yX2_readNumbers : MethodName := ⟨RX2, "readNumbers", "(I)I"⟩
abbrev cX2_figuresAt : ByteArray := prog_4_method_7_code
def yX2_figuresAt : MethodName := ⟨RX2, "figuresAt", "(I)I"⟩
abbrev cX2_valueOf : ByteArray := prog_4_method_8_code
def yX2_valueOf : MethodName := ⟨RX2, "valueOf", "(II)I"⟩
abbrev cX2_isFigure : ByteArray := prog_4_method_9_code
def yX2_isFigure : MethodName := ⟨RX2, "isFigure", "(I)Z"⟩
abbrev cX2_letterAt : ByteArray := prog_4_method_10_code
def yX2_letterAt : MethodName := ⟨RX2, "letterAt", "(I)I"⟩
def RX3 : String := "BlueByTouch$Pile"
def TX3 : u_T := fun k => match k with
  | 0 => ("BlueByTouch$Pile", "stands", "[LBlueByTouch$Stand;", true)
  | _ => ("BlueByTouch$Pile", "height", "I", false)
def tyX3 : Nat → FieldType := fun k => match k with
  | 0 => .array (.object "BlueByTouch$Stand")
  | _ => .int
abbrev wsX30 : List Cond := u_ws RX3 TX3 2
theorem nmX3 : ∀ a, a < 2 → ∀ b, b < 2 → a ≠ b → (TX3 a).2.1 ≠ (TX3 b).2.1 := by decide +kernel
theorem tyX3_ok : ∀ k, k < 2 → parseFieldDescriptor (TX3 k).2.2.1 = some (tyX3 k) := by decide +kernel
abbrev cX3_init : ByteArray := prog_5_method_1_code
def yX3_init : MethodName := ⟨RX3, "<init>", "(I)V"⟩
abbrev cX3_height : ByteArray := prog_5_method_2_code
def yX3_height : MethodName := ⟨RX3, "height", "()I"⟩
abbrev cX3_isFull : ByteArray := prog_5_method_3_code
def yX3_isFull : MethodName := ⟨RX3, "isFull", "()Z"⟩
abbrev cX3_clear : ByteArray := prog_5_method_4_code
def yX3_clear : MethodName := ⟨RX3, "clear", "()V"⟩
abbrev cX3_push : ByteArray := prog_5_method_5_code
def yX3_push : MethodName := ⟨RX3, "push", "(LBlueByTouch$Stand;)V"⟩
abbrev cX3_popInto : ByteArray := prog_5_method_6_code
def yX3_popInto : MethodName := ⟨RX3, "popInto", "(LBlueByTouch$Stand;)Z"⟩
abbrev cX3_dropLowest : ByteArray := prog_5_method_7_code
def yX3_dropLowest : MethodName := ⟨RX3, "dropLowest", "()V"⟩
def RX4 : String := "BlueByTouch$Row"
def TX4 : u_T := fun k => match k with
  | _ => ("BlueByTouch$Row", "cells", "[I", true)
def tyX4 : Nat → FieldType := fun k => match k with
  | _ => .array .int
abbrev wsX40 : List Cond := u_ws RX4 TX4 1
theorem nmX4 : ∀ a, a < 1 → ∀ b, b < 1 → a ≠ b → (TX4 a).2.1 ≠ (TX4 b).2.1 := by decide +kernel
theorem tyX4_ok : ∀ k, k < 1 → parseFieldDescriptor (TX4 k).2.2.1 = some (tyX4 k) := by decide +kernel
abbrev cX4_init : ByteArray := prog_6_method_1_code
def yX4_init : MethodName := ⟨RX4, "<init>", "(I)V"⟩
abbrev cX4_at : ByteArray := prog_6_method_2_code
def yX4_at : MethodName := ⟨RX4, "at", "(I)I"⟩
abbrev cX4_put : ByteArray := prog_6_method_3_code
def yX4_put : MethodName := ⟨RX4, "put", "(II)V"⟩
abbrev cX4_fill : ByteArray := prog_6_method_4_code
def yX4_fill : MethodName := ⟨RX4, "fill", "(I)V"⟩
abbrev cX4_copy : ByteArray := prog_6_method_5_code
def yX4_copy : MethodName := ⟨RX4, "copy", "(LBlueByTouch$Row;)V"⟩
abbrev cX4_times : ByteArray := prog_6_method_6_code
def yX4_times : MethodName := ⟨RX4, "times", "(II)I"⟩
def RX5 : String := "BlueByTouch$Stand"
def TX5 : u_T := fun k => match k with
  | 0 => ("BlueByTouch$Stand", "shades", "LBlueByTouch$Row;", true)
  | 1 => ("BlueByTouch$Stand", "powdered", "I", false)
  | 2 => ("BlueByTouch$Stand", "hourNow", "I", false)
  | _ => ("BlueByTouch$Stand", "gone", "I", false)
def tyX5 : Nat → FieldType := fun k => match k with
  | 0 => .object "BlueByTouch$Row"
  | 1 => .int
  | 2 => .int
  | _ => .int
abbrev wsX50 : List Cond := u_ws RX5 TX5 4
theorem nmX5 : ∀ a, a < 4 → ∀ b, b < 4 → a ≠ b → (TX5 a).2.1 ≠ (TX5 b).2.1 := by decide +kernel
theorem tyX5_ok : ∀ k, k < 4 → parseFieldDescriptor (TX5 k).2.2.1 = some (tyX5 k) := by decide +kernel
abbrev cX5_init : ByteArray := prog_7_method_1_code
def yX5_init : MethodName := ⟨RX5, "<init>", "()V"⟩
abbrev cX5_copy : ByteArray := prog_7_method_2_code
def yX5_copy : MethodName := ⟨RX5, "copy", "(LBlueByTouch$Stand;)V"⟩
abbrev cX5_begin : ByteArray := prog_7_method_3_code
def yX5_begin : MethodName := ⟨RX5, "begin", "(LBlueByTouch$House;)V"⟩
abbrev cX5_isPowdered : ByteArray := prog_7_method_4_code
def yX5_isPowdered : MethodName := ⟨RX5, "isPowdered", "(I)Z"⟩
abbrev cX5_seen : ByteArray := prog_7_method_5_code
def yX5_seen : MethodName := ⟨RX5, "seen", "(I)I"⟩
abbrev cX5_shaded : ByteArray := prog_7_method_6_code
def yX5_shaded : MethodName := ⟨RX5, "shaded", "(LBlueByTouch$House;)I"⟩
abbrev cX5_darkestPerson : ByteArray := prog_7_method_7_code
def yX5_darkestPerson : MethodName := ⟨RX5, "darkestPerson", "(LBlueByTouch$House;)I"⟩
abbrev cX5_meet : ByteArray := prog_7_method_8_code
def yX5_meet : MethodName := ⟨RX5, "meet", "(LBlueByTouch$House;II)I"⟩
abbrev cX5_given : ByteArray := prog_7_method_9_code
def yX5_given : MethodName := ⟨RX5, "given", "(II)I"⟩
abbrev cX5_darken : ByteArray := prog_7_method_10_code
def yX5_darken : MethodName := ⟨RX5, "darken", "(III)I"⟩
abbrev cX5_rinse : ByteArray := prog_7_method_11_code
def yX5_rinse : MethodName := ⟨RX5, "rinse", "(LBlueByTouch$House;I)V"⟩
abbrev cX5_lighten : ByteArray := prog_7_method_12_code
def yX5_lighten : MethodName := ⟨RX5, "lighten", "(II)V"⟩
abbrev cX5_goHours : ByteArray := prog_7_method_13_code
def yX5_goHours : MethodName := ⟨RX5, "goHours", "(LBlueByTouch$House;I)V"⟩
abbrev cX5_goHour : ByteArray := prog_7_method_14_code
def yX5_goHour : MethodName := ⟨RX5, "goHour", "(LBlueByTouch$House;)V"⟩
abbrev cX5_fade : ByteArray := prog_7_method_15_code
def yX5_fade : MethodName := ⟨RX5, "fade", "(LBlueByTouch$House;)V"⟩
def RX6 : String := "BlueByTouch$Twos"
def TX6 : u_T := fun k => match k with
  | 0 => ("BlueByTouch$Twos", "many", "I", false)
  | _ => ("BlueByTouch$Twos", "first", "I", false)
def tyX6 : Nat → FieldType := fun k => match k with
  | 0 => .int
  | _ => .int
abbrev wsX60 : List Cond := u_ws RX6 TX6 2
theorem nmX6 : ∀ a, a < 2 → ∀ b, b < 2 → a ≠ b → (TX6 a).2.1 ≠ (TX6 b).2.1 := by decide +kernel
theorem tyX6_ok : ∀ k, k < 2 → parseFieldDescriptor (TX6 k).2.2.1 = some (tyX6 k) := by decide +kernel
abbrev cX6_init : ByteArray := prog_8_method_1_code
def yX6_init : MethodName := ⟨RX6, "<init>", "()V"⟩
abbrev cX6_clear : ByteArray := prog_8_method_2_code
def yX6_clear : MethodName := ⟨RX6, "clear", "()V"⟩
abbrev cX6_add : ByteArray := prog_8_method_3_code
def yX6_add : MethodName := ⟨RX6, "add", "(II)V"⟩
abbrev cX6_answer : ByteArray := prog_8_method_4_code
def yX6_answer : MethodName := ⟨RX6, "answer", "(I)I"⟩
def RX7 : String := "BlueByTouch"
def TX7 : u_T := fun k => match k with
  | 0 => ("BlueByTouch", "page", "LBlueByTouch$Page;", true)
  | 1 => ("BlueByTouch", "laid", "LBlueByTouch$House;", false)
  | 2 => ("BlueByTouch", "draft", "LBlueByTouch$House;", false)
  | 3 => ("BlueByTouch", "now", "LBlueByTouch$Stand;", true)
  | 4 => ("BlueByTouch", "trial", "LBlueByTouch$Stand;", true)
  | 5 => ("BlueByTouch", "past", "LBlueByTouch$Pile;", true)
  | 6 => ("BlueByTouch", "houses", "LBlueByTouch$Pile;", true)
  | 7 => ("BlueByTouch", "clues", "LBlueByTouch$Clues;", true)
  | 8 => ("BlueByTouch", "twos", "LBlueByTouch$Twos;", true)
  | 9 => ("BlueByTouch", "route", "LBlueByTouch$Row;", true)
  | _ => ("BlueByTouch", "links", "LBlueByTouch$Row;", true)
def tyX7 : Nat → FieldType := fun k => match k with
  | 0 => .object "BlueByTouch$Page"
  | 1 => .object "BlueByTouch$House"
  | 2 => .object "BlueByTouch$House"
  | 3 => .object "BlueByTouch$Stand"
  | 4 => .object "BlueByTouch$Stand"
  | 5 => .object "BlueByTouch$Pile"
  | 6 => .object "BlueByTouch$Pile"
  | 7 => .object "BlueByTouch$Clues"
  | 8 => .object "BlueByTouch$Twos"
  | 9 => .object "BlueByTouch$Row"
  | _ => .object "BlueByTouch$Row"
abbrev wsX70 : List Cond := u_ws RX7 TX7 11
theorem nmX7 : ∀ a, a < 11 → ∀ b, b < 11 → a ≠ b → (TX7 a).2.1 ≠ (TX7 b).2.1 := by decide +kernel
theorem tyX7_ok : ∀ k, k < 11 → parseFieldDescriptor (TX7 k).2.2.1 = some (tyX7 k) := by decide +kernel
abbrev cX7_init : ByteArray := prog_1_method_1_code
def yX7_init : MethodName := ⟨RX7, "<init>", "()V"⟩
abbrev cX7_write : ByteArray := prog_1_method_2_code
def yX7_write : MethodName := ⟨RX7, "write", "(I)I"⟩
abbrev cX7_wipe : ByteArray := prog_1_method_3_code
def yX7_wipe : MethodName := ⟨RX7, "wipe", "()I"⟩
abbrev cX7_fault : ByteArray := prog_1_method_4_code
def yX7_fault : MethodName := ⟨RX7, "fault", "()I"⟩
abbrev cX7_lay : ByteArray := prog_1_method_5_code
def yX7_lay : MethodName := ⟨RX7, "lay", "()I"⟩
abbrev cX7_item : ByteArray := prog_1_method_6_code
def yX7_item : MethodName := ⟨RX7, "item", "(II)I"⟩
abbrev cX7_hour : ByteArray := prog_1_method_7_code
def yX7_hour : MethodName := ⟨RX7, "hour", "(II)I"⟩
abbrev cX7_pass : ByteArray := prog_1_method_8_code
def yX7_pass : MethodName := ⟨RX7, "pass", "(I)I"⟩
abbrev cX7_touch : ByteArray := prog_1_method_9_code
def yX7_touch : MethodName := ⟨RX7, "touch", "(II)I"⟩
abbrev cX7_wash : ByteArray := prog_1_method_10_code
def yX7_wash : MethodName := ⟨RX7, "wash", "(I)I"⟩
abbrev cX7_powder : ByteArray := prog_1_method_11_code
def yX7_powder : MethodName := ⟨RX7, "powder", "(I)I"⟩
abbrev cX7_undo : ByteArray := prog_1_method_12_code
def yX7_undo : MethodName := ⟨RX7, "undo", "()I"⟩
abbrev cX7_behind : ByteArray := prog_1_method_13_code
def yX7_behind : MethodName := ⟨RX7, "behind", "(III)I"⟩
abbrev cX7_asIf : ByteArray := prog_1_method_14_code
def yX7_asIf : MethodName := ⟨RX7, "asIf", "(III)I"⟩
abbrev cX7_soap : ByteArray := prog_1_method_15_code
def yX7_soap : MethodName := ⟨RX7, "soap", "(I)I"⟩
abbrev cX7_alike : ByteArray := prog_1_method_16_code
def yX7_alike : MethodName := ⟨RX7, "alike", "(I)I"⟩
abbrev cX7_show : ByteArray := prog_1_method_17_code
def yX7_show : MethodName := ⟨RX7, "show", "(II)I"⟩
abbrev cX7_forget : ByteArray := prog_1_method_18_code
def yX7_forget : MethodName := ⟨RX7, "forget", "()I"⟩
abbrev cX7_touched : ByteArray := prog_1_method_19_code
def yX7_touched : MethodName := ⟨RX7, "touched", "(I)I"⟩
abbrev cX7_order : ByteArray := prog_1_method_20_code
def yX7_order : MethodName := ⟨RX7, "order", "(I)I"⟩
abbrev cX7_box : ByteArray := prog_1_method_21_code
def yX7_box : MethodName := ⟨RX7, "box", "()I"⟩
abbrev cX7_from : ByteArray := prog_1_method_22_code
def yX7_from : MethodName := ⟨RX7, "from", "(II)I"⟩
abbrev cX7_led : ByteArray := prog_1_method_23_code
def yX7_led : MethodName := ⟨RX7, "led", "(III)I"⟩
abbrev cX7_dogs : ByteArray := prog_1_method_24_code
def yX7_dogs : MethodName := ⟨RX7, "dogs", "(III)I"⟩
abbrev cX7_keep : ByteArray := prog_1_method_25_code
def yX7_keep : MethodName := ⟨RX7, "keep", "()I"⟩
abbrev cX7_back : ByteArray := prog_1_method_26_code
def yX7_back : MethodName := ⟨RX7, "back", "()I"⟩
abbrev cX7_count : ByteArray := prog_1_method_27_code
def yX7_count : MethodName := ⟨RX7, "count", "(I)I"⟩
abbrev cX7_isEither : ByteArray := prog_1_method_28_code
def yX7_isEither : MethodName := ⟨RX7, "isEither", "(I)Z"⟩
abbrev cX7_isHour : ByteArray := prog_1_method_29_code
def yX7_isHour : MethodName := ⟨RX7, "isHour", "(I)Z"⟩
abbrev cX7_isShade : ByteArray := prog_1_method_30_code
def yX7_isShade : MethodName := ⟨RX7, "isShade", "(I)Z"⟩
abbrev cX7_layPage : ByteArray := prog_1_method_31_code
def yX7_layPage : MethodName := ⟨RX7, "layPage", "()Z"⟩
abbrev cX7_looksLike : ByteArray := prog_1_method_32_code
def yX7_looksLike : MethodName := ⟨RX7, "looksLike", "(II)Z"⟩
abbrev cX7_washingsTo : ByteArray := prog_1_method_33_code
def yX7_washingsTo : MethodName := ⟨RX7, "washingsTo", "(III)I"⟩
abbrev cX7_shortestRoute : ByteArray := prog_1_method_34_code
def yX7_shortestRoute : MethodName := ⟨RX7, "shortestRoute", "(II)I"⟩
abbrev cX7_routeLeads : ByteArray := prog_1_method_35_code
def yX7_routeLeads : MethodName := ⟨RX7, "routeLeads", "(LBlueByTouch$Stand;LBlueByTouch$House;LBlueByTouch$Row;IIII)Z"⟩
abbrev cX7_ordersThatShow : ByteArray := prog_1_method_36_code
def yX7_ordersThatShow : MethodName := ⟨RX7, "ordersThatShow", "(LBlueByTouch$Stand;LBlueByTouch$House;LBlueByTouch$Clues;II)I"⟩
abbrev cX7_link : ByteArray := prog_1_method_37_code
def yX7_link : MethodName := ⟨RX7, "link", "(II)V"⟩
abbrev cX7_draw : ByteArray := prog_1_method_38_code
def yX7_draw : MethodName := ⟨RX7, "draw", "(II)I"⟩
abbrev cX7_dogTouch : ByteArray := prog_1_method_39_code
def yX7_dogTouch : MethodName := ⟨RX7, "dogTouch", "(I)V"⟩
def RX8 : String := "BlueByTouchModel"
def TX8 : u_T := fun k => match k with
  | 0 => ("BlueByTouchModel", "text", "[I", true)
  | 1 => ("BlueByTouchModel", "typed", "I", false)
  | 2 => ("BlueByTouchModel", "told", "[I", true)
  | 3 => ("BlueByTouchModel", "draft", "[I", true)
  | 4 => ("BlueByTouchModel", "s", "[I", true)
  | 5 => ("BlueByTouchModel", "past", "[I", true)
  | 6 => ("BlueByTouchModel", "known", "I", false)
  | 7 => ("BlueByTouchModel", "images", "[I", true)
  | 8 => ("BlueByTouchModel", "kept", "I", false)
  | 9 => ("BlueByTouchModel", "shown", "[I", true)
  | 10 => ("BlueByTouchModel", "shows", "I", false)
  | 11 => ("BlueByTouchModel", "at", "I", false)
  | 12 => ("BlueByTouchModel", "held", "[I", true)
  | 13 => ("BlueByTouchModel", "led", "[I", true)
  | _ => ("BlueByTouchModel", "came", "[I", true)
def tyX8 : Nat → FieldType := fun k => match k with
  | 0 => .array .int
  | 1 => .int
  | 2 => .array .int
  | 3 => .array .int
  | 4 => .array .int
  | 5 => .array .int
  | 6 => .int
  | 7 => .array .int
  | 8 => .int
  | 9 => .array .int
  | 10 => .int
  | 11 => .int
  | 12 => .array .int
  | 13 => .array .int
  | _ => .array .int
abbrev wsX80 : List Cond := u_ws RX8 TX8 15
theorem nmX8 : ∀ a, a < 15 → ∀ b, b < 15 → a ≠ b → (TX8 a).2.1 ≠ (TX8 b).2.1 := by decide +kernel
theorem tyX8_ok : ∀ k, k < 15 → parseFieldDescriptor (TX8 k).2.2.1 = some (tyX8 k) := by decide +kernel
abbrev cX8_init : ByteArray := prog_10_method_1_code
def yX8_init : MethodName := ⟨RX8, "<init>", "()V"⟩
abbrev cX8_in : ByteArray := prog_10_method_3_code
def yX8_in : MethodName := ⟨RX8, "in", "(III)Z"⟩
abbrev cX8_isItem : ByteArray := prog_10_method_4_code
def yX8_isItem : MethodName := ⟨RX8, "isItem", "(I)Z"⟩
abbrev cX8_isAlive : ByteArray := prog_10_method_5_code
def yX8_isAlive : MethodName := ⟨RX8, "isAlive", "(I)Z"⟩
abbrev cX8_isPerson : ByteArray := prog_10_method_6_code
def yX8_isPerson : MethodName := ⟨RX8, "isPerson", "(I)Z"⟩
abbrev cX8_write : ByteArray := prog_10_method_7_code
def yX8_write : MethodName := ⟨RX8, "write", "(I)I"⟩
abbrev cX8_wipe : ByteArray := prog_10_method_8_code
def yX8_wipe : MethodName := ⟨RX8, "wipe", "()I"⟩
abbrev cX8_letterAt : ByteArray := prog_10_method_9_code
def yX8_letterAt : MethodName := ⟨RX8, "letterAt", "(I)I"⟩
abbrev cX8_isFigure : ByteArray := prog_10_method_10_code
def yX8_isFigure : MethodName := ⟨RX8, "isFigure", "(I)Z"⟩
abbrev cX8_number : ByteArray := prog_10_method_11_code
def yX8_number : MethodName := ⟨RX8, "number", "(II)I"⟩
abbrev cX8_begins : ByteArray := prog_10_method_12_code
def yX8_begins : MethodName := ⟨RX8, "begins", "()V"⟩
abbrev cX8_itemOf : ByteArray := prog_10_method_13_code
def yX8_itemOf : MethodName := ⟨RX8, "itemOf", "(II)V"⟩
abbrev cX8_touchOf : ByteArray := prog_10_method_14_code
def yX8_touchOf : MethodName := ⟨RX8, "touchOf", "(III)V"⟩
abbrev cX8_washOf : ByteArray := prog_10_method_15_code
def yX8_washOf : MethodName := ⟨RX8, "washOf", "(II)V"⟩
abbrev cX8_readsItem : ByteArray := prog_10_method_16_code
def yX8_readsItem : MethodName := ⟨RX8, "readsItem", "(I)Z"⟩
abbrev cX8_reads : ByteArray := prog_10_method_17_code
def yX8_reads : MethodName := ⟨RX8, "reads", "()I"⟩
abbrev cX8_fault : ByteArray := prog_10_method_18_code
def yX8_fault : MethodName := ⟨RX8, "fault", "()I"⟩
abbrev cX8_lays : ByteArray := prog_10_method_19_code
def yX8_lays : MethodName := ⟨RX8, "lays", "()V"⟩
abbrev cX8_lay : ByteArray := prog_10_method_20_code
def yX8_lay : MethodName := ⟨RX8, "lay", "()I"⟩
abbrev cX8_seen : ByteArray := prog_10_method_21_code
def yX8_seen : MethodName := ⟨RX8, "seen", "(I)I"⟩
abbrev cX8_item : ByteArray := prog_10_method_22_code
def yX8_item : MethodName := ⟨RX8, "item", "(II)I"⟩
abbrev cX8_hour : ByteArray := prog_10_method_23_code
def yX8_hour : MethodName := ⟨RX8, "hour", "(II)I"⟩
abbrev cX8_keeps : ByteArray := prog_10_method_24_code
def yX8_keeps : MethodName := ⟨RX8, "keeps", "()V"⟩
abbrev cX8_gives : ByteArray := prog_10_method_25_code
def yX8_gives : MethodName := ⟨RX8, "gives", "(I)I"⟩
abbrev cX8_gets : ByteArray := prog_10_method_26_code
def yX8_gets : MethodName := ⟨RX8, "gets", "(II)I"⟩
abbrev cX8_touches : ByteArray := prog_10_method_27_code
def yX8_touches : MethodName := ⟨RX8, "touches", "(II)I"⟩
abbrev cX8_lightens : ByteArray := prog_10_method_28_code
def yX8_lightens : MethodName := ⟨RX8, "lightens", "(II)V"⟩
abbrev cX8_washesBy : ByteArray := prog_10_method_29_code
def yX8_washesBy : MethodName := ⟨RX8, "washesBy", "(I)I"⟩
abbrev cX8_passes : ByteArray := prog_10_method_30_code
def yX8_passes : MethodName := ⟨RX8, "passes", "()V"⟩
abbrev cX8_pass : ByteArray := prog_10_method_31_code
def yX8_pass : MethodName := ⟨RX8, "pass", "(I)I"⟩
abbrev cX8_touch : ByteArray := prog_10_method_32_code
def yX8_touch : MethodName := ⟨RX8, "touch", "(II)I"⟩
abbrev cX8_wash : ByteArray := prog_10_method_33_code
def yX8_wash : MethodName := ⟨RX8, "wash", "(I)I"⟩
abbrev cX8_ones : ByteArray := prog_10_method_34_code
def yX8_ones : MethodName := ⟨RX8, "ones", "(I)I"⟩
abbrev cX8_powder : ByteArray := prog_10_method_35_code
def yX8_powder : MethodName := ⟨RX8, "powder", "(I)I"⟩
abbrev cX8_undo : ByteArray := prog_10_method_36_code
def yX8_undo : MethodName := ⟨RX8, "undo", "()I"⟩
abbrev cX8_holds : ByteArray := prog_10_method_37_code
def yX8_holds : MethodName := ⟨RX8, "holds", "()V"⟩
abbrev cX8_lets : ByteArray := prog_10_method_38_code
def yX8_lets : MethodName := ⟨RX8, "lets", "()V"⟩
abbrev cX8_behind : ByteArray := prog_10_method_39_code
def yX8_behind : MethodName := ⟨RX8, "behind", "(III)I"⟩
abbrev cX8_asIf : ByteArray := prog_10_method_40_code
def yX8_asIf : MethodName := ⟨RX8, "asIf", "(III)I"⟩
abbrev cX8_soap : ByteArray := prog_10_method_41_code
def yX8_soap : MethodName := ⟨RX8, "soap", "(I)I"⟩
abbrev cX8_alike : ByteArray := prog_10_method_42_code
def yX8_alike : MethodName := ⟨RX8, "alike", "(I)I"⟩
abbrev cX8_show : ByteArray := prog_10_method_43_code
def yX8_show : MethodName := ⟨RX8, "show", "(II)I"⟩
abbrev cX8_forget : ByteArray := prog_10_method_44_code
def yX8_forget : MethodName := ⟨RX8, "forget", "()I"⟩
abbrev cX8_isSo : ByteArray := prog_10_method_45_code
def yX8_isSo : MethodName := ⟨RX8, "isSo", "()Z"⟩
abbrev cX8_touched : ByteArray := prog_10_method_46_code
def yX8_touched : MethodName := ⟨RX8, "touched", "(I)I"⟩
abbrev cX8_asLaid : ByteArray := prog_10_method_47_code
def yX8_asLaid : MethodName := ⟨RX8, "asLaid", "()V"⟩
abbrev cX8_order : ByteArray := prog_10_method_48_code
def yX8_order : MethodName := ⟨RX8, "order", "(I)I"⟩
abbrev cX8_box : ByteArray := prog_10_method_49_code
def yX8_box : MethodName := ⟨RX8, "box", "()I"⟩
abbrev cX8_leads : ByteArray := prog_10_method_50_code
def yX8_leads : MethodName := ⟨RX8, "leads", "(II)V"⟩
abbrev cX8_from : ByteArray := prog_10_method_51_code
def yX8_from : MethodName := ⟨RX8, "from", "(II)I"⟩
abbrev cX8_led : ByteArray := prog_10_method_52_code
def yX8_led : MethodName := ⟨RX8, "led", "(III)I"⟩
abbrev cX8_dogs : ByteArray := prog_10_method_53_code
def yX8_dogs : MethodName := ⟨RX8, "dogs", "(III)I"⟩
abbrev cX8_shaded : ByteArray := prog_10_method_54_code
def yX8_shaded : MethodName := ⟨RX8, "shaded", "()I"⟩
abbrev cX8_keep : ByteArray := prog_10_method_55_code
def yX8_keep : MethodName := ⟨RX8, "keep", "()I"⟩
abbrev cX8_back : ByteArray := prog_10_method_56_code
def yX8_back : MethodName := ⟨RX8, "back", "()I"⟩
abbrev cX8_count : ByteArray := prog_10_method_57_code
def yX8_count : MethodName := ⟨RX8, "count", "(I)I"⟩
def RJ6 : String := "java/lang/Integer"
def TJ6 : u_T := fun k => match k with
  | _ => ("", "", "", false)
def tyJ6 : Nat → FieldType := fun k => match k with
  | _ => .int
abbrev wsJ60 : List Cond := u_ws RJ6 TJ6 0
theorem nmJ6 : ∀ a, a < 0 → ∀ b, b < 0 → a ≠ b → (TJ6 a).2.1 ≠ (TJ6 b).2.1 := by decide +kernel
theorem tyJ6_ok : ∀ k, k < 0 → parseFieldDescriptor (TJ6 k).2.2.1 = some (tyJ6 k) := by decide +kernel
abbrev cJ6_bitCount_0f7a4 : ByteArray := prog_11_method_49_code
def yJ6_bitCount_0f7a4 : MethodName := ⟨RJ6, "bitCount", "(I)I"⟩
def RJ9 : String := "java/lang/Math"
def TJ9 : u_T := fun k => match k with
  | _ => ("", "", "", false)
def tyJ9 : Nat → FieldType := fun k => match k with
  | _ => .int
abbrev wsJ90 : List Cond := u_ws RJ9 TJ9 0
theorem nmJ9 : ∀ a, a < 0 → ∀ b, b < 0 → a ≠ b → (TJ9 a).2.1 ≠ (TJ9 b).2.1 := by decide +kernel
theorem tyJ9_ok : ∀ k, k < 0 → parseFieldDescriptor (TJ9 k).2.2.1 = some (tyJ9 k) := by decide +kernel
abbrev cJ9_max_7cf53 : ByteArray := prog_12_method_65_code
def yJ9_max_7cf53 : MethodName := ⟨RJ9, "max", "(II)I"⟩
abbrev cJ9_min_7cf53 : ByteArray := prog_12_method_69_code
def yJ9_min_7cf53 : MethodName := ⟨RJ9, "min", "(II)I"⟩
def RJ0 : String := "java/lang/String"
def TJ0 : u_T := fun k => match k with
  | _ => ("", "", "", false)
def tyJ0 : Nat → FieldType := fun k => match k with
  | _ => .int
abbrev wsJ00 : List Cond := u_ws RJ0 TJ0 0
theorem nmJ0 : ∀ a, a < 0 → ∀ b, b < 0 → a ≠ b → (TJ0 a).2.1 ≠ (TJ0 b).2.1 := by decide +kernel
theorem tyJ0_ok : ∀ k, k < 0 → parseFieldDescriptor (TJ0 k).2.2.1 = some (tyJ0 k) := by decide +kernel
abbrev cJ0_length_8abf5 : ByteArray := prog_13_method_54_code
def yJ0_length_8abf5 : MethodName := ⟨RJ0, "length", "()I"⟩
abbrev cJ0_charAt_5068e : ByteArray := prog_13_method_56_code
def yJ0_charAt_5068e : MethodName := ⟨RJ0, "charAt", "(I)C"⟩
abbrev cJ0_coder_7d493 : ByteArray := prog_13_method_152_code
def yJ0_coder_7d493 : MethodName := ⟨RJ0, "coder", "()B"⟩
abbrev cJ0_isLatin1_aae02 : ByteArray := prog_13_method_154_code
def yJ0_isLatin1_aae02 : MethodName := ⟨RJ0, "isLatin1", "()Z"⟩
abbrev cJ0_checkIndex_df160 : ByteArray := prog_13_method_155_code
def yJ0_checkIndex_df160 : MethodName := ⟨RJ0, "checkIndex", "(II)V"⟩
def RJ1 : String := "java/lang/StringLatin1"
def TJ1 : u_T := fun k => match k with
  | _ => ("", "", "", false)
def tyJ1 : Nat → FieldType := fun k => match k with
  | _ => .int
abbrev wsJ10 : List Cond := u_ws RJ1 TJ1 0
theorem nmJ1 : ∀ a, a < 0 → ∀ b, b < 0 → a ≠ b → (TJ1 a).2.1 ≠ (TJ1 b).2.1 := by decide +kernel
theorem tyJ1_ok : ∀ k, k < 0 → parseFieldDescriptor (TJ1 k).2.2.1 = some (tyJ1 k) := by decide +kernel
abbrev cJ1_charAt_3b067 : ByteArray := prog_14_method_2_code
def yJ1_charAt_3b067 : MethodName := ⟨RJ1, "charAt", "([BI)C"⟩
def RJ2 : String := "java/lang/StringUTF16"
def TJ2 : u_T := fun k => match k with
  | _ => ("", "", "", false)
def tyJ2 : Nat → FieldType := fun k => match k with
  | _ => .int
abbrev wsJ20 : List Cond := u_ws RJ2 TJ2 0
theorem nmJ2 : ∀ a, a < 0 → ∀ b, b < 0 → a ≠ b → (TJ2 a).2.1 ≠ (TJ2 b).2.1 := by decide +kernel
theorem tyJ2_ok : ∀ k, k < 0 → parseFieldDescriptor (TJ2 k).2.2.1 = some (tyJ2 k) := by decide +kernel
abbrev cJ2_getChar_3b067 : ByteArray := prog_15_method_5_code
def yJ2_getChar_3b067 : MethodName := ⟨RJ2, "getChar", "([BI)C"⟩
abbrev cJ2_length_9d52b : ByteArray := prog_15_method_6_code
def yJ2_length_9d52b : MethodName := ⟨RJ2, "length", "([B)I"⟩
abbrev cJ2_charAt_3b067 : ByteArray := prog_15_method_83_code
def yJ2_charAt_3b067 : MethodName := ⟨RJ2, "charAt", "([BI)C"⟩
abbrev cJ2_checkIndex_2214a : ByteArray := prog_15_method_91_code
def yJ2_checkIndex_2214a : MethodName := ⟨RJ2, "checkIndex", "(I[B)V"⟩
def RJ3 : String := "jdk/internal/util/Preconditions"
def TJ3 : u_T := fun k => match k with
  | _ => ("", "", "", false)
def tyJ3 : Nat → FieldType := fun k => match k with
  | _ => .int
abbrev wsJ30 : List Cond := u_ws RJ3 TJ3 0
theorem nmJ3 : ∀ a, a < 0 → ∀ b, b < 0 → a ≠ b → (TJ3 a).2.1 ≠ (TJ3 b).2.1 := by decide +kernel
theorem tyJ3_ok : ∀ k, k < 0 → parseFieldDescriptor (TJ3 k).2.2.1 = some (tyJ3 k) := by decide +kernel
abbrev cJ3_checkIndex_8e157 : ByteArray := prog_16_method_11_code
def yJ3_checkIndex_8e157 : MethodName := ⟨RJ3, "checkIndex", "(IILjava/util/function/BiFunction;)I"⟩
def RL : String := "BlueByTouchLaw"
abbrev cL_law : ByteArray := code
def yL_law : MethodName := ⟨RL, "law", "([I)Z"⟩
abbrev vwCl : List vw_C := [(RX0, TX0, 3), (RX1, TX1, 11), (RX2, TX2, 4), (RX3, TX3, 2), (RX4, TX4, 1), (RX5, TX5, 4), (RX6, TX6, 2), (RX7, TX7, 11), (RX8, TX8, 15)]
